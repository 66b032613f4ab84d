abbrev kF (r1 r2 : Nat) (c : Nat → Int32) : List Value := [.int (c 0), .int (c 1), .int (c 2), .int (c 3), .int (c 4), .int (c 5), .int (c 6), .int (c 7), .int (c 8), .int (c 9), .int (c 10), .int (c 11), .int (c 12), .int (c 13), .int (c 14), .ref r1, .int (c 16), .ref r2]
abbrev wF (ad : Nat → Nat) (v : Nat → Nat → Int32) : List Value := [.ref (ad 4), .ref (ad 5), .int (v 2 0), .ref (ad 6), .ref (ad 7), .int (v 5 0), .ref (ad 8), .ref (ad 9), .int (v 8 0), .int (v 9 0), .int (v 10 0), .int (v 11 0), .int (v 12 0)]
abbrev wW (cI : ClassId) (ad : Nat → Nat) (v : Nat → Nat → Int32) : va_W := [(ad 3, .inr (1, wF ad v)), (ad 4, .inl (cI, 10, .inl (v 0))), (ad 5, .inl (cI, 10, .inl (v 1))), (ad 6, .inl (cI, 1024, .inl (v 3))), (ad 7, .inl (cI, 10, .inl (v 4))), (ad 8, .inl (cI, 10, .inl (v 6))), (ad 9, .inl (cI, 1024, .inl (v 7)))]
abbrev tF (ad : Nat → Nat) (t : Nat → Nat → Int32) : List Value := [.ref (ad 1), .int (t 1 0), .ref (ad 2), .int (t 3 0), .int (t 4 0), .int (t 5 0), .int (t 6 0), .int (t 7 0), .ref (ad 3)]

set_option maxHeartbeats 4000000 in
set_option maxRecDepth 100000 in
theorem tX2_isWithin (l : Launch) (D : va_G) (cI cZ cC : ClassId) (v lo hi : Int32) : RdC l yX2_isWithin wsX2_isWithin (rmK 0) D cI cZ cC [.int v, .int lo, .int hi] (fun _ => True) (fun ans => ans = bI (lo ≤ v ∧ v ≤ hi)) := by
  refine RdC.of (cc := cX2_isWithin) (maxL := 3) (ret := .boolean) (by decide) rfl (Nat.le_of_ble_eq_true rfl) ?_
  intro p e s m args below meth c Q ls hx hb hml hts hown hK hP hret hl
  have hl : lv_has ls 3 [(0, .int v), (1, .int lo), (2, .int hi)] := hl
  refine lv_iload_n hx hb dX2_isWithin_0 rfl (lv_at hl 0 rfl) ?_
  refine lv_iload_n hx hb dX2_isWithin_1 rfl (lv_at hl 1 rfl) ?_
  refine lv_icmp_lt (tgt := 14) hx hb dX2_isWithin_2 (by decide) (fun c_1 => ?_) (fun c_1 => ?_)
  · refine lv_iconst (v := 0) hx hb dX2_isWithin_14 (by decide) ?_
    exact hret 15 _ _ ((bI_f (fun h => absurd h.1 (Int32.not_le.mpr c_1))).symm) rfl dX2_isWithin_15
  · refine lv_iload_n hx hb dX2_isWithin_5 rfl (lv_at hl 0 rfl) ?_
    refine lv_iload_n hx hb dX2_isWithin_6 rfl (lv_at hl 2 rfl) ?_
    refine lv_icmp_gt (tgt := 14) hx hb dX2_isWithin_7 (by decide) (fun c_2 => ?_) (fun c_2 => ?_)
    · refine lv_iconst (v := 0) hx hb dX2_isWithin_14 (by decide) ?_
      exact hret 15 _ _ ((bI_f (fun h => absurd h.2 (Int32.not_le.mpr c_2))).symm) rfl dX2_isWithin_15
    · refine lv_iconst (v := 1) hx hb dX2_isWithin_10 (by decide) ?_
      refine lv_goto (tgt := 15) hx hb dX2_isWithin_11 (by decide) ?_
      exact hret 15 _ _ ((bI_t ⟨Int32.not_lt.mp c_1, Int32.not_lt.mp c_2⟩).symm) rfl dX2_isWithin_15

set_option maxHeartbeats 4000000 in
set_option maxRecDepth 100000 in
theorem tX2_asNumber (l : Launch) (D : va_G) (cI cZ cC : ClassId) (x : Int32) : RdC l yX2_asNumber wsX2_asNumber (rmK 0) D cI cZ cC [.int x] (fun _ => True) (fun ans => ans = (if x = 0 then 0 else 1)) := by
  refine RdC.of (cc := cX2_asNumber) (maxL := 1) (ret := .int) (by decide) rfl (Nat.le_of_ble_eq_true rfl) ?_
  intro p e s m args below meth c Q ls hx hb hml hts hown hK hP hret hl
  have hl : lv_has ls 1 [(0, .int x)] := hl
  refine lv_iload_n hx hb dX2_asNumber_0 rfl (lv_at hl 0 rfl) ?_
  refine lv_if_eq (tgt := 8) hx hb dX2_asNumber_1 (by decide) (fun c_1 => ?_) (fun c_1 => ?_)
  · refine lv_iconst (v := 0) hx hb dX2_asNumber_8 (by decide) ?_
    exact hret 9 _ _ (by rw [if_pos c_1]) rfl dX2_asNumber_9
  · refine lv_iconst (v := 1) hx hb dX2_asNumber_4 (by decide) ?_
    refine lv_goto (tgt := 9) hx hb dX2_asNumber_5 (by decide) ?_
    exact hret 9 _ _ (by rw [if_neg c_1]) rfl dX2_asNumber_9

set_option maxHeartbeats 4000000 in
set_option maxRecDepth 100000 in
theorem tX2_isBitsBelow (l : Launch) (D : va_G) (cI cZ cC : ClassId) (x y : Int32) : RdC l yX2_isBitsBelow wsX2_isBitsBelow (rmK 0) D cI cZ cC [.int x, .int y] (fun _ => True) (fun ans => ans = bI ((x &&& (-(1 <<< (y &&& 31)))) = 0)) := by
  refine RdC.of (cc := cX2_isBitsBelow) (maxL := 2) (ret := .boolean) (by decide) rfl (Nat.le_of_ble_eq_true rfl) ?_
  intro p e s m args below meth c Q ls hx hb hml hts hown hK hP hret hl
  have hl : lv_has ls 2 [(0, .int x), (1, .int y)] := hl
  refine lv_iload_n hx hb dX2_isBitsBelow_0 rfl (lv_at hl 0 rfl) ?_
  refine lv_iconst (v := 1) hx hb dX2_isBitsBelow_1 (by decide) ?_
  refine lv_iload_n hx hb dX2_isBitsBelow_2 rfl (lv_at hl 1 rfl) ?_
  refine lv_ishl hx hb dX2_isBitsBelow_3 ?_
  refine lv_ineg hx hb dX2_isBitsBelow_4 ?_
  refine lv_iand hx hb dX2_isBitsBelow_5 ?_
  refine lv_if_ne (tgt := 13) hx hb dX2_isBitsBelow_6 (by decide) (fun c_1 => ?_) (fun c_1 => ?_)
  · refine lv_iconst (v := 0) hx hb dX2_isBitsBelow_13 (by decide) ?_
    exact hret 14 _ _ ((bI_f c_1).symm) rfl dX2_isBitsBelow_14
  · refine lv_iconst (v := 1) hx hb dX2_isBitsBelow_9 (by decide) ?_
    refine lv_goto (tgt := 14) hx hb dX2_isBitsBelow_10 (by decide) ?_
    exact hret 14 _ _ ((bI_t c_1).symm) rfl dX2_isBitsBelow_14

set_option maxHeartbeats 4000000 in
set_option maxRecDepth 100000 in
theorem tX0_isPermanent (l : Launch) (D : va_G) (cI cZ cC : ClassId) (h r1 r2 : Nat) (f : Nat → Int32) : RdC l yX0_isPermanent wsX0_isPermanent (rmK 0) D cI cZ cC [.ref h] (fun H => va_P D vwCl ([(h, .inr (0, kF r1 r2 f))]) H) (fun ans => ans = bI (f 0 = 1)) := by
  refine RdC.of (cc := cX0_isPermanent) (maxL := 1) (ret := .boolean) (by decide) rfl (Nat.le_of_ble_eq_true rfl) ?_
  intro p e s m args below meth c Q ls hx hb hml hts hown hK hP hret hl
  have hl : lv_has ls 1 [(0, .ref h)] := hl
  have hP : va_P D vwCl ([(h, .inr (0, kF r1 r2 f))]) s.heap := hP
  have hinX0 : ∀ w ∈ u_ws RX0 TX0 18, w ∈ wsX0_isPermanent := (fun w h => List.mem_cons_of_mem _ (List.mem_append_right _ h))
  refine lv_aload_n hx hb dX0_isPermanent_0 rfl (lv_at hl 0 rfl) ?_
  refine va_get (D := D) (ci := 0) (v := .int (f 0)) (C := RX0) (T := TX0) (N := 18) hx hb hts hinX0 hown hK hP 0 rfl rfl 0 (by decide) (hts (.fieldLink RX0 47 "TroubleCodes$Check" "sort" "I") (mem_at 1 rfl)) (fun _ h9 => h9) rfl dX0_isPermanent_1 ?_
  refine lv_iconst (v := 1) hx hb dX0_isPermanent_4 (by decide) ?_
  refine lv_icmp_ne (tgt := 12) hx hb dX0_isPermanent_5 (by decide) (fun c_1 => ?_) (fun c_1 => ?_)
  · refine lv_iconst (v := 0) hx hb dX0_isPermanent_12 (by decide) ?_
    exact hret 13 _ _ (by simp [bI, c_1]) rfl dX0_isPermanent_13
  · refine lv_iconst (v := 1) hx hb dX0_isPermanent_8 (by decide) ?_
    refine lv_goto (tgt := 13) hx hb dX0_isPermanent_9 (by decide) ?_
    exact hret 13 _ _ (by simp [bI, c_1]) rfl dX0_isPermanent_13

set_option maxHeartbeats 4000000 in
set_option maxRecDepth 100000 in
theorem tX0_isTroubled (l : Launch) (D : va_G) (cI cZ cC : ClassId) (h r1 r2 : Nat) (f : Nat → Int32) : RdC l yX0_isTroubled wsX0_isTroubled (rmK 0) D cI cZ cC [.ref h] (fun H => va_P D vwCl ([(h, .inr (0, kF r1 r2 f))]) H) (fun ans => ans = bI (f 7 = 1 ∨ f 7 = 2)) := by
  refine RdC.of (cc := cX0_isTroubled) (maxL := 1) (ret := .boolean) (by decide) rfl (Nat.le_of_ble_eq_true rfl) ?_
  intro p e s m args below meth c Q ls hx hb hml hts hown hK hP hret hl
  have hl : lv_has ls 1 [(0, .ref h)] := hl
  have hP : va_P D vwCl ([(h, .inr (0, kF r1 r2 f))]) s.heap := hP
  have hinX0 : ∀ w ∈ u_ws RX0 TX0 18, w ∈ wsX0_isTroubled := (fun w h => List.mem_cons_of_mem _ (List.mem_append_right _ h))
  refine lv_aload_n hx hb dX0_isTroubled_0 rfl (lv_at hl 0 rfl) ?_
  refine va_get (D := D) (ci := 0) (v := .int (f 7)) (C := RX0) (T := TX0) (N := 18) hx hb hts hinX0 hown hK hP 0 rfl rfl 7 (by decide) (hts (.fieldLink RX0 11 "TroubleCodes$Check" "code" "I") (mem_at 1 rfl)) (fun _ h9 => h9) rfl dX0_isTroubled_1 ?_
  refine lv_iconst (v := 1) hx hb dX0_isTroubled_4 (by decide) ?_
  refine lv_icmp_eq (tgt := 16) hx hb dX0_isTroubled_5 (by decide) (fun c_1 => ?_) (fun c_1 => ?_)
  · refine lv_iconst (v := 1) hx hb dX0_isTroubled_16 (by decide) ?_
    refine lv_goto (tgt := 21) hx hb dX0_isTroubled_17 (by decide) ?_
    exact hret 21 _ _ (by simp [bI, c_1]) rfl dX0_isTroubled_21
  · refine lv_aload_n hx hb dX0_isTroubled_8 rfl (lv_at hl 0 rfl) ?_
    refine va_get (D := D) (ci := 0) (v := .int (f 7)) (C := RX0) (T := TX0) (N := 18) hx hb hts hinX0 hown hK hP 0 rfl rfl 7 (by decide) (hts (.fieldLink RX0 11 "TroubleCodes$Check" "code" "I") (mem_at 1 rfl)) (fun _ h9 => h9) rfl dX0_isTroubled_9 ?_
    refine lv_iconst (v := 2) hx hb dX0_isTroubled_12 (by decide) ?_
    refine lv_icmp_ne (tgt := 20) hx hb dX0_isTroubled_13 (by decide) (fun c_2 => ?_) (fun c_2 => ?_)
    · refine lv_iconst (v := 0) hx hb dX0_isTroubled_20 (by decide) ?_
      exact hret 21 _ _ (by simp [bI, c_1, c_2]) rfl dX0_isTroubled_21
    · refine lv_iconst (v := 1) hx hb dX0_isTroubled_16 (by decide) ?_
      refine lv_goto (tgt := 21) hx hb dX0_isTroubled_17 (by decide) ?_
      exact hret 21 _ _ (by simp [bI, c_1, c_2]) rfl dX0_isTroubled_21

set_option maxHeartbeats 4000000 in
set_option maxRecDepth 100000 in
theorem tX0_isFrozen (l : Launch) (D : va_G) (cI cZ cC : ClassId) (h r1 r2 : Nat) (f : Nat → Int32) : RdC l yX0_isFrozen wsX0_isFrozen (rmK 0) D cI cZ cC [.ref h] (fun H => va_P D vwCl ([(h, .inr (0, kF r1 r2 f))]) H) (fun ans => ans = bI (¬ f 13 = (-1))) := by
  refine RdC.of (cc := cX0_isFrozen) (maxL := 1) (ret := .boolean) (by decide) rfl (Nat.le_of_ble_eq_true rfl) ?_
  intro p e s m args below meth c Q ls hx hb hml hts hown hK hP hret hl
  have hl : lv_has ls 1 [(0, .ref h)] := hl
  have hP : va_P D vwCl ([(h, .inr (0, kF r1 r2 f))]) s.heap := hP
  have hinX0 : ∀ w ∈ u_ws RX0 TX0 18, w ∈ wsX0_isFrozen := (fun w h => List.mem_cons_of_mem _ (List.mem_append_right _ h))
  refine lv_aload_n hx hb dX0_isFrozen_0 rfl (lv_at hl 0 rfl) ?_
  refine va_get (D := D) (ci := 0) (v := .int (f 13)) (C := RX0) (T := TX0) (N := 18) hx hb hts hinX0 hown hK hP 0 rfl rfl 13 (by decide) (hts (.fieldLink RX0 31 "TroubleCodes$Check" "frozenDrive" "I") (mem_at 1 rfl)) (fun _ h9 => h9) rfl dX0_isFrozen_1 ?_
  refine lv_iconst (v := (-1)) hx hb dX0_isFrozen_4 (by decide) ?_
  refine lv_icmp_eq (tgt := 12) hx hb dX0_isFrozen_5 (by decide) (fun c_1 => ?_) (fun c_1 => ?_)
  · refine lv_iconst (v := 0) hx hb dX0_isFrozen_12 (by decide) ?_
    exact hret 13 _ _ (by simp [bI, c_1]) rfl dX0_isFrozen_13
  · refine lv_iconst (v := 1) hx hb dX0_isFrozen_8 (by decide) ?_
    refine lv_goto (tgt := 13) hx hb dX0_isFrozen_9 (by decide) ?_
    exact hret 13 _ _ (by simp [bI, c_1]) rfl dX0_isFrozen_13

def fX0_tell (f : Nat → Int32) (b : Int32) : Nat → Int32 := if b = 0 then (if (f 11) = 0 then (upd f 11 1) else f) else (upd f 11 2)
set_option maxHeartbeats 4000000 in
set_option maxRecDepth 100000 in
theorem tX0_tell (l : Launch) (D : va_G) (cI cZ cC : ClassId) (h r1 r2 : Nat) (f : Nat → Int32) (b : Int32) : WrV l yX0_tell wsX0_tell (rmK 0) D cI cZ cC [.ref h, .int b] ([(h, .inr (0, kF r1 r2 f))]) ([(h, .inr (0, kF r1 r2 (fX0_tell f b)))]) := by
  refine WrV.of (cc := cX0_tell) (maxL := 2) (by decide) rfl (Nat.le_of_ble_eq_true rfl) ?_
  intro p e s m args below meth c Q A ls hx hb hml hts hown hK hP hD hS hA hret hl
  have hl : lv_has ls 2 [(0, .ref h), (1, .int b)] := hl
  have hinX0 : ∀ w ∈ u_ws RX0 TX0 18, w ∈ wsX0_tell := (fun w h => List.mem_cons_of_mem _ (List.mem_append_right _ h))
  refine lv_iload_n hx hb dX0_tell_0 rfl (lv_at hl 1 rfl) ?_
  refine lv_if_eq (tgt := 12) hx hb dX0_tell_1 (by decide) (fun c_1 => ?_) (fun c_1 => ?_)
  · refine lv_aload_n hx hb dX0_tell_12 rfl (lv_at hl 0 rfl) ?_
    refine va_get (D := D) (ci := 0) (v := .int (f 11)) (C := RX0) (T := TX0) (N := 18) hx hb hts hinX0 hown hK hP 0 rfl rfl 11 (by decide) (hts (.fieldLink RX0 24 "TroubleCodes$Check" "told" "I") (mem_at 1 rfl)) (fun _ h9 => h9) rfl dX0_tell_13 ?_
    refine lv_if_ne (tgt := 24) hx hb dX0_tell_16 (by decide) (fun c_2 => ?_) (fun c_2 => ?_)
    · have es : fX0_tell f b = f := by rw [fX0_tell]; rw [if_pos c_1, if_neg c_2]
      exact hret 24 _ _ _ (by rw [es]; exact hP) (by rw [es]; exact hD) hS dX0_tell_24
    · refine lv_aload_n hx hb dX0_tell_19 rfl (lv_at hl 0 rfl) ?_
      refine lv_iconst (v := 1) hx hb dX0_tell_20 (by decide) ?_
      refine va_put (D := D) (ci := 0) (v := .int 1) (ty := .int) (C := RX0) (T := TX0) (N := 18) hx hb hts hinX0 tyX0 tyX0_ok nmX0 hown hK hP hD hS 0 rfl rfl 11 (by decide) (hts (.fieldLink RX0 24 "TroubleCodes$Check" "told" "I") (mem_at 1 rfl)) (fun _ h9 => h9) rfl (by decide +kernel) rfl rfl (Nat.le_of_ble_eq_true rfl) dX0_tell_21 (fun H locs hP hD hS => ?_)
      have hP : va_P D vwCl ([(h, .inr (0, kF r1 r2 (upd f 11 1)))]) H := hP
      have hD : va_D A ([(h, .inr (0, kF r1 r2 (upd f 11 1)))]) := hD
      have es : fX0_tell f b = upd f 11 1 := by rw [fX0_tell]; rw [if_pos c_1, if_pos c_2]
      exact hret 24 _ _ _ (by rw [es]; exact hP) (by rw [es]; exact hD) hS dX0_tell_24
  · refine lv_aload_n hx hb dX0_tell_4 rfl (lv_at hl 0 rfl) ?_
    refine lv_iconst (v := 2) hx hb dX0_tell_5 (by decide) ?_
    refine va_put (D := D) (ci := 0) (v := .int 2) (ty := .int) (C := RX0) (T := TX0) (N := 18) hx hb hts hinX0 tyX0 tyX0_ok nmX0 hown hK hP hD hS 0 rfl rfl 11 (by decide) (hts (.fieldLink RX0 24 "TroubleCodes$Check" "told" "I") (mem_at 1 rfl)) (fun _ h9 => h9) rfl (by decide +kernel) rfl rfl (Nat.le_of_ble_eq_true rfl) dX0_tell_6 (fun H locs hP hD hS => ?_)
    have hP : va_P D vwCl ([(h, .inr (0, kF r1 r2 (upd f 11 2)))]) H := hP
    have hD : va_D A ([(h, .inr (0, kF r1 r2 (upd f 11 2)))]) := hD
    refine lv_goto (tgt := 24) hx hb dX0_tell_9 (by decide) ?_
    have es : fX0_tell f b = upd f 11 2 := by rw [fX0_tell]; rw [if_neg c_1]
    exact hret 24 _ _ _ (by rw [es]; exact hP) (by rw [es]; exact hD) hS dX0_tell_24

def fX0_thaw (f : Nat → Int32) : Nat → Int32 := upd f 13 (-1)
set_option maxHeartbeats 4000000 in
set_option maxRecDepth 100000 in
theorem tX0_thaw (l : Launch) (D : va_G) (cI cZ cC : ClassId) (h r1 r2 : Nat) (f : Nat → Int32) : WrV l yX0_thaw wsX0_thaw (rmK 0) D cI cZ cC [.ref h] ([(h, .inr (0, kF r1 r2 f))]) ([(h, .inr (0, kF r1 r2 (fX0_thaw f)))]) := by
  refine WrV.of (cc := cX0_thaw) (maxL := 1) (by decide) rfl (Nat.le_of_ble_eq_true rfl) ?_
  intro p e s m args below meth c Q A ls hx hb hml hts hown hK hP hD hS hA hret hl
  have hl : lv_has ls 1 [(0, .ref h)] := hl
  have hinX0 : ∀ w ∈ u_ws RX0 TX0 18, w ∈ wsX0_thaw := (fun w h => List.mem_cons_of_mem _ (List.mem_append_right _ h))
  refine lv_aload_n hx hb dX0_thaw_0 rfl (lv_at hl 0 rfl) ?_
  refine lv_iconst (v := (-1)) hx hb dX0_thaw_1 (by decide) ?_
  refine va_put (D := D) (ci := 0) (v := .int (-1)) (ty := .int) (C := RX0) (T := TX0) (N := 18) hx hb hts hinX0 tyX0 tyX0_ok nmX0 hown hK hP hD hS 0 rfl rfl 13 (by decide) (hts (.fieldLink RX0 31 "TroubleCodes$Check" "frozenDrive" "I") (mem_at 1 rfl)) (fun _ h9 => h9) rfl (by decide +kernel) rfl rfl (Nat.le_of_ble_eq_true rfl) dX0_thaw_2 (fun H locs hP hD hS => ?_)
  have hP : va_P D vwCl ([(h, .inr (0, kF r1 r2 (upd f 13 (-1))))]) H := hP
  have hD : va_D A ([(h, .inr (0, kF r1 r2 (upd f 13 (-1))))]) := hD
  have es : fX0_thaw f = upd f 13 (-1) := by rw [fX0_thaw]
  exact hret 5 _ _ _ (by rw [es]; exact hP) (by rw [es]; exact hD) hS dX0_thaw_5

def fX0_countBad (f : Nat → Int32) (b : Int32) : Int32 × (Nat → Int32) := if (f 7) = 0 then (if ((f 8) + 1) < (f 2) then (0, upd (upd (upd (upd f 7 1) 8 ((f 8) + 1)) 9 0) 10 0) else (if b = 0 then (1, upd (upd (upd (upd f 7 2) 8 ((f 8) + 1)) 9 0) 10 0) else (0, upd (upd (upd (upd f 7 1) 8 ((f 8) + 1)) 9 0) 10 0))) else (if ((if (f 7) = 3 then 1 else (if (f 7) = 1 then (if ((f 8) + 1) < (f 2) then 0 else 1) else 0)) : Int32) = 0 then (0, upd (upd (upd f 8 ((f 8) + 1)) 9 0) 10 0) else (if b = 0 then (1, upd (upd (upd (upd f 7 2) 8 ((f 8) + 1)) 9 0) 10 0) else (0, upd (upd (upd f 8 ((f 8) + 1)) 9 0) 10 0)))
set_option maxHeartbeats 4000000 in
set_option maxRecDepth 100000 in
theorem tX0_countBad (l : Launch) (D : va_G) (cI cZ cC : ClassId) (h r1 r2 : Nat) (f : Nat → Int32) (b : Int32) : WrI l yX0_countBad wsX0_countBad (rmK 0) D cI cZ cC [.ref h, .int b] ([(h, .inr (0, kF r1 r2 f))]) ([(h, .inr (0, kF r1 r2 ((fX0_countBad f b).2)))]) (fun ans => ans = (fX0_countBad f b).1) := by
  refine WrI.of (cc := cX0_countBad) (maxL := 3) (ret := .boolean) (by decide) rfl (Nat.le_of_ble_eq_true rfl) ?_
  intro p e s m args below meth c Q A ls hx hb hml hts hown hK hP hD hS hA hret hl
  have hl : lv_has ls 3 [(0, .ref h), (1, .int b)] := hl
  have hinX0 : ∀ w ∈ u_ws RX0 TX0 18, w ∈ wsX0_countBad := (fun w h => List.mem_cons_of_mem _ (List.mem_append_right _ h))
  refine lv_aload_n hx hb dX0_countBad_0 rfl (lv_at hl 0 rfl) ?_
  refine lv_iconst (v := 0) hx hb dX0_countBad_1 (by decide) ?_
  refine va_put (D := D) (ci := 0) (v := .int 0) (ty := .int) (C := RX0) (T := TX0) (N := 18) hx hb hts hinX0 tyX0 tyX0_ok nmX0 hown hK hP hD hS 0 rfl rfl 9 (by decide) (hts (.fieldLink RX0 18 "TroubleCodes$Check" "goodCount" "I") (mem_at 1 rfl)) (fun _ h9 => h9) rfl (by decide +kernel) rfl rfl (Nat.le_of_ble_eq_true rfl) dX0_countBad_2 (fun H locs hP hD hS => ?_)
  have hP : va_P D vwCl ([(h, .inr (0, kF r1 r2 (upd f 9 0)))]) H := hP
  have hD : va_D A ([(h, .inr (0, kF r1 r2 (upd f 9 0)))]) := hD
  refine lv_aload_n hx hb dX0_countBad_5 rfl (lv_at hl 0 rfl) ?_
  refine lv_iconst (v := 0) hx hb dX0_countBad_6 (by decide) ?_
  refine va_put (D := D) (ci := 0) (v := .int 0) (ty := .int) (C := RX0) (T := TX0) (N := 18) hx hb hts hinX0 tyX0 tyX0_ok nmX0 hown hK hP hD hS 0 rfl rfl 10 (by decide) (hts (.fieldLink RX0 21 "TroubleCodes$Check" "age" "I") (mem_at 2 rfl)) (fun _ h9 => h9) rfl (by decide +kernel) rfl rfl (Nat.le_of_ble_eq_true rfl) dX0_countBad_7 (fun H locs hP hD hS => ?_)
  have hP : va_P D vwCl ([(h, .inr (0, kF r1 r2 (upd (upd f 9 0) 10 0)))]) H := hP
  have hD : va_D A ([(h, .inr (0, kF r1 r2 (upd (upd f 9 0) 10 0)))]) := hD
  refine lv_aload_n hx hb dX0_countBad_10 rfl (lv_at hl 0 rfl) ?_
  refine lv_dup hx hb dX0_countBad_11 rfl ?_
  refine va_get (D := D) (ci := 0) (v := .int (f 8)) (C := RX0) (T := TX0) (N := 18) hx hb hts hinX0 hown hK hP 0 rfl rfl 8 (by decide) (hts (.fieldLink RX0 15 "TroubleCodes$Check" "badCount" "I") (mem_at 3 rfl)) (fun _ h9 => h9) rfl dX0_countBad_12 ?_
  refine lv_iconst (v := 1) hx hb dX0_countBad_15 (by decide) ?_
  refine lv_iadd hx hb dX0_countBad_16 ?_
  refine va_put (D := D) (ci := 0) (v := .int ((f 8) + 1)) (ty := .int) (C := RX0) (T := TX0) (N := 18) hx hb hts hinX0 tyX0 tyX0_ok nmX0 hown hK hP hD hS 0 rfl rfl 8 (by decide) (hts (.fieldLink RX0 15 "TroubleCodes$Check" "badCount" "I") (mem_at 3 rfl)) (fun _ h9 => h9) rfl (by decide +kernel) rfl rfl (Nat.le_of_ble_eq_true rfl) dX0_countBad_17 (fun H locs hP hD hS => ?_)
  have hP : va_P D vwCl ([(h, .inr (0, kF r1 r2 (upd (upd (upd f 8 ((f 8) + 1)) 9 0) 10 0)))]) H := hP
  have hD : va_D A ([(h, .inr (0, kF r1 r2 (upd (upd (upd f 8 ((f 8) + 1)) 9 0) 10 0)))]) := hD
  refine lv_aload_n hx hb dX0_countBad_20 rfl (lv_at hl 0 rfl) ?_
  refine va_get (D := D) (ci := 0) (v := .int (f 7)) (C := RX0) (T := TX0) (N := 18) hx hb hts hinX0 hown hK hP 0 rfl rfl 7 (by decide) (hts (.fieldLink RX0 11 "TroubleCodes$Check" "code" "I") (mem_at 4 rfl)) (fun _ h9 => h9) rfl dX0_countBad_21 ?_
  refine lv_if_ne (tgt := 32) hx hb dX0_countBad_24 (by decide) (fun c_1 => ?_) (fun c_1 => ?_)
  · refine lv_aload_n hx hb dX0_countBad_32 rfl (lv_at hl 0 rfl) ?_
    refine va_get (D := D) (ci := 0) (v := .int (f 7)) (C := RX0) (T := TX0) (N := 18) hx hb hts hinX0 hown hK hP 0 rfl rfl 7 (by decide) (hts (.fieldLink RX0 11 "TroubleCodes$Check" "code" "I") (mem_at 4 rfl)) (fun _ h9 => h9) rfl dX0_countBad_33 ?_
    refine lv_iconst (v := 3) hx hb dX0_countBad_36 (by decide) ?_
    have J64_1 : W p l e (rmK 0) s m args below meth c H locs 0 0 Q (F0 m 64 ls [.int ((if (f 7) = 3 then 1 else (if (f 7) = 1 then (if ((f 8) + 1) < (f 2) then 0 else 1) else 0)) : Int32)]) := by
      refine lv_istore_n (lv' := [(2, .int ((if (f 7) = 3 then 1 else (if (f 7) = 1 then (if ((f 8) + 1) < (f 2) then 0 else 1) else 0)) : Int32)), (0, .ref h), (1, .int b)]) hx hb dX0_countBad_64 rfl hl (by decide) rfl (fun ls hl => ?_)
      refine lv_iload_n hx hb dX0_countBad_65 rfl (lv_at hl 0 rfl) ?_
      refine lv_if_eq (tgt := 73) hx hb dX0_countBad_66 (by decide) (fun c_3 => ?_) (fun c_3 => ?_)
      · refine lv_iconst (v := 0) hx hb dX0_countBad_73 (by decide) ?_
        have es : fX0_countBad f b = (0, upd (upd (upd f 8 ((f 8) + 1)) 9 0) 10 0) := by rw [fX0_countBad]; rw [if_neg c_1, if_pos c_3]
        exact hret 74 _ _ _ _ (by rw [es]) (by rw [es]; exact hP) (by rw [es]; exact hD) hS rfl dX0_countBad_74
      · refine lv_iload_n hx hb dX0_countBad_69 rfl (lv_at hl 2 rfl) ?_
        refine lv_if_eq (tgt := 75) hx hb dX0_countBad_70 (by decide) (fun c_4 => ?_) (fun c_4 => ?_)
        · refine lv_aload_n hx hb dX0_countBad_75 rfl (lv_at hl 1 rfl) ?_
          refine lv_iconst (v := 2) hx hb dX0_countBad_76 (by decide) ?_
          refine va_put (D := D) (ci := 0) (v := .int 2) (ty := .int) (C := RX0) (T := TX0) (N := 18) hx hb hts hinX0 tyX0 tyX0_ok nmX0 hown hK hP hD hS 0 rfl rfl 7 (by decide) (hts (.fieldLink RX0 11 "TroubleCodes$Check" "code" "I") (mem_at 4 rfl)) (fun _ h9 => h9) rfl (by decide +kernel) rfl rfl (Nat.le_of_ble_eq_true rfl) dX0_countBad_77 (fun H locs hP hD hS => ?_)
          have hP : va_P D vwCl ([(h, .inr (0, kF r1 r2 (upd (upd (upd (upd f 7 2) 8 ((f 8) + 1)) 9 0) 10 0)))]) H := hP
          have hD : va_D A ([(h, .inr (0, kF r1 r2 (upd (upd (upd (upd f 7 2) 8 ((f 8) + 1)) 9 0) 10 0)))]) := hD
          refine lv_iconst (v := 1) hx hb dX0_countBad_80 (by decide) ?_
          have es : fX0_countBad f b = (1, upd (upd (upd (upd f 7 2) 8 ((f 8) + 1)) 9 0) 10 0) := by rw [fX0_countBad]; rw [if_neg c_1, if_neg c_3, if_pos c_4]
          exact hret 81 _ _ _ _ (by rw [es]) (by rw [es]; exact hP) (by rw [es]; exact hD) hS rfl dX0_countBad_81
        · refine lv_iconst (v := 0) hx hb dX0_countBad_73 (by decide) ?_
          have es : fX0_countBad f b = (0, upd (upd (upd f 8 ((f 8) + 1)) 9 0) 10 0) := by rw [fX0_countBad]; rw [if_neg c_1, if_neg c_3, if_neg c_4]
          exact hret 74 _ _ _ _ (by rw [es]) (by rw [es]; exact hP) (by rw [es]; exact hD) hS rfl dX0_countBad_74
    refine lv_icmp_eq (tgt := 59) hx hb dX0_countBad_37 (by decide) (fun c_5 => ?_) (fun c_5 => ?_)
    · refine lv_iconst (v := 1) hx hb dX0_countBad_59 (by decide) ?_
      refine lv_goto (tgt := 64) hx hb dX0_countBad_60 (by decide) ?_
      rw [if_pos c_5] at J64_1
      exact J64_1
    · refine lv_aload_n hx hb dX0_countBad_40 rfl (lv_at hl 0 rfl) ?_
      refine va_get (D := D) (ci := 0) (v := .int (f 7)) (C := RX0) (T := TX0) (N := 18) hx hb hts hinX0 hown hK hP 0 rfl rfl 7 (by decide) (hts (.fieldLink RX0 11 "TroubleCodes$Check" "code" "I") (mem_at 4 rfl)) (fun _ h9 => h9) rfl dX0_countBad_41 ?_
      refine lv_iconst (v := 1) hx hb dX0_countBad_44 (by decide) ?_
      refine lv_icmp_ne (tgt := 63) hx hb dX0_countBad_45 (by decide) (fun c_6 => ?_) (fun c_6 => ?_)
      · refine lv_iconst (v := 0) hx hb dX0_countBad_63 (by decide) ?_
        rw [if_neg c_5, if_neg c_6] at J64_1
        exact J64_1
      · refine lv_aload_n hx hb dX0_countBad_48 rfl (lv_at hl 0 rfl) ?_
        refine va_get (D := D) (ci := 0) (v := .int ((f 8) + 1)) (C := RX0) (T := TX0) (N := 18) hx hb hts hinX0 hown hK hP 0 rfl rfl 8 (by decide) (hts (.fieldLink RX0 15 "TroubleCodes$Check" "badCount" "I") (mem_at 3 rfl)) (fun _ h9 => h9) rfl dX0_countBad_49 ?_
        refine lv_aload_n hx hb dX0_countBad_52 rfl (lv_at hl 0 rfl) ?_
        refine va_get (D := D) (ci := 0) (v := .int (f 2)) (C := RX0) (T := TX0) (N := 18) hx hb hts hinX0 hown hK hP 0 rfl rfl 2 (by decide) (hts (.fieldLink RX0 53 "TroubleCodes$Check" "badLimit" "I") (mem_at 5 rfl)) (fun _ h9 => h9) rfl dX0_countBad_53 ?_
        refine lv_icmp_lt (tgt := 63) hx hb dX0_countBad_56 (by decide) (fun c_7 => ?_) (fun c_7 => ?_)
        · refine lv_iconst (v := 0) hx hb dX0_countBad_63 (by decide) ?_
          rw [if_neg c_5, if_pos c_6, if_pos c_7] at J64_1
          exact J64_1
        · refine lv_iconst (v := 1) hx hb dX0_countBad_59 (by decide) ?_
          refine lv_goto (tgt := 64) hx hb dX0_countBad_60 (by decide) ?_
          rw [if_neg c_5, if_pos c_6, if_neg c_7] at J64_1
          exact J64_1
  · refine lv_aload_n hx hb dX0_countBad_27 rfl (lv_at hl 0 rfl) ?_
    refine lv_iconst (v := 1) hx hb dX0_countBad_28 (by decide) ?_
    refine va_put (D := D) (ci := 0) (v := .int 1) (ty := .int) (C := RX0) (T := TX0) (N := 18) hx hb hts hinX0 tyX0 tyX0_ok nmX0 hown hK hP hD hS 0 rfl rfl 7 (by decide) (hts (.fieldLink RX0 11 "TroubleCodes$Check" "code" "I") (mem_at 4 rfl)) (fun _ h9 => h9) rfl (by decide +kernel) rfl rfl (Nat.le_of_ble_eq_true rfl) dX0_countBad_29 (fun H locs hP hD hS => ?_)
    have hP : va_P D vwCl ([(h, .inr (0, kF r1 r2 (upd (upd (upd (upd f 7 1) 8 ((f 8) + 1)) 9 0) 10 0)))]) H := hP
    have hD : va_D A ([(h, .inr (0, kF r1 r2 (upd (upd (upd (upd f 7 1) 8 ((f 8) + 1)) 9 0) 10 0)))]) := hD
    refine lv_aload_n hx hb dX0_countBad_32 rfl (lv_at hl 0 rfl) ?_
    refine va_get (D := D) (ci := 0) (v := .int 1) (C := RX0) (T := TX0) (N := 18) hx hb hts hinX0 hown hK hP 0 rfl rfl 7 (by decide) (hts (.fieldLink RX0 11 "TroubleCodes$Check" "code" "I") (mem_at 4 rfl)) (fun _ h9 => h9) rfl dX0_countBad_33 ?_
    refine lv_iconst (v := 3) hx hb dX0_countBad_36 (by decide) ?_
    have J64_7 : W p l e (rmK 0) s m args below meth c H locs 0 0 Q (F0 m 64 ls [.int (bI (¬ (((f 8) + 1) < (f 2))))]) := by
      refine lv_istore_n (lv' := [(2, .int (bI (¬ (((f 8) + 1) < (f 2))))), (0, .ref h), (1, .int b)]) hx hb dX0_countBad_64 rfl hl (by decide) rfl (fun ls hl => ?_)
      refine lv_iload_n hx hb dX0_countBad_65 rfl (lv_at hl 0 rfl) ?_
      refine lv_if_eq (tgt := 73) hx hb dX0_countBad_66 (by decide) (fun c_9 => ?_) (fun c_9 => ?_)
      · have c_9 := bI_eq c_9
        have c_9 := Decidable.not_not.mp c_9
        refine lv_iconst (v := 0) hx hb dX0_countBad_73 (by decide) ?_
        have es : fX0_countBad f b = (0, upd (upd (upd (upd f 7 1) 8 ((f 8) + 1)) 9 0) 10 0) := by rw [fX0_countBad]; rw [if_pos c_1, if_pos c_9]
        exact hret 74 _ _ _ _ (by rw [es]) (by rw [es]; exact hP) (by rw [es]; exact hD) hS rfl dX0_countBad_74
      · have c_9 := bI_ne c_9
        refine lv_iload_n hx hb dX0_countBad_69 rfl (lv_at hl 2 rfl) ?_
        refine lv_if_eq (tgt := 75) hx hb dX0_countBad_70 (by decide) (fun c_10 => ?_) (fun c_10 => ?_)
        · refine lv_aload_n hx hb dX0_countBad_75 rfl (lv_at hl 1 rfl) ?_
          refine lv_iconst (v := 2) hx hb dX0_countBad_76 (by decide) ?_
          refine va_put (D := D) (ci := 0) (v := .int 2) (ty := .int) (C := RX0) (T := TX0) (N := 18) hx hb hts hinX0 tyX0 tyX0_ok nmX0 hown hK hP hD hS 0 rfl rfl 7 (by decide) (hts (.fieldLink RX0 11 "TroubleCodes$Check" "code" "I") (mem_at 4 rfl)) (fun _ h9 => h9) rfl (by decide +kernel) rfl rfl (Nat.le_of_ble_eq_true rfl) dX0_countBad_77 (fun H locs hP hD hS => ?_)
          have hP : va_P D vwCl ([(h, .inr (0, kF r1 r2 (upd (upd (upd (upd f 7 2) 8 ((f 8) + 1)) 9 0) 10 0)))]) H := hP
          have hD : va_D A ([(h, .inr (0, kF r1 r2 (upd (upd (upd (upd f 7 2) 8 ((f 8) + 1)) 9 0) 10 0)))]) := hD
          refine lv_iconst (v := 1) hx hb dX0_countBad_80 (by decide) ?_
          have es : fX0_countBad f b = (1, upd (upd (upd (upd f 7 2) 8 ((f 8) + 1)) 9 0) 10 0) := by rw [fX0_countBad]; rw [if_pos c_1, if_neg c_9, if_pos c_10]
          exact hret 81 _ _ _ _ (by rw [es]) (by rw [es]; exact hP) (by rw [es]; exact hD) hS rfl dX0_countBad_81
        · refine lv_iconst (v := 0) hx hb dX0_countBad_73 (by decide) ?_
          have es : fX0_countBad f b = (0, upd (upd (upd (upd f 7 1) 8 ((f 8) + 1)) 9 0) 10 0) := by rw [fX0_countBad]; rw [if_pos c_1, if_neg c_9, if_neg c_10]
          exact hret 74 _ _ _ _ (by rw [es]) (by rw [es]; exact hP) (by rw [es]; exact hD) hS rfl dX0_countBad_74
    refine lv_icmp_eq (tgt := 59) hx hb dX0_countBad_37 (by decide) (fun c_11 => absurd c_11 (by decide)) (fun _ => ?_)
    refine lv_aload_n hx hb dX0_countBad_40 rfl (lv_at hl 0 rfl) ?_
    refine va_get (D := D) (ci := 0) (v := .int 1) (C := RX0) (T := TX0) (N := 18) hx hb hts hinX0 hown hK hP 0 rfl rfl 7 (by decide) (hts (.fieldLink RX0 11 "TroubleCodes$Check" "code" "I") (mem_at 4 rfl)) (fun _ h9 => h9) rfl dX0_countBad_41 ?_
    refine lv_iconst (v := 1) hx hb dX0_countBad_44 (by decide) ?_
    refine lv_icmp_ne (tgt := 63) hx hb dX0_countBad_45 (by decide) (fun c_12 => absurd c_12 (by decide)) (fun _ => ?_)
    refine lv_aload_n hx hb dX0_countBad_48 rfl (lv_at hl 0 rfl) ?_
    refine va_get (D := D) (ci := 0) (v := .int ((f 8) + 1)) (C := RX0) (T := TX0) (N := 18) hx hb hts hinX0 hown hK hP 0 rfl rfl 8 (by decide) (hts (.fieldLink RX0 15 "TroubleCodes$Check" "badCount" "I") (mem_at 3 rfl)) (fun _ h9 => h9) rfl dX0_countBad_49 ?_
    refine lv_aload_n hx hb dX0_countBad_52 rfl (lv_at hl 0 rfl) ?_
    refine va_get (D := D) (ci := 0) (v := .int (f 2)) (C := RX0) (T := TX0) (N := 18) hx hb hts hinX0 hown hK hP 0 rfl rfl 2 (by decide) (hts (.fieldLink RX0 53 "TroubleCodes$Check" "badLimit" "I") (mem_at 5 rfl)) (fun _ h9 => h9) rfl dX0_countBad_53 ?_
    refine lv_icmp_lt (tgt := 63) hx hb dX0_countBad_56 (by decide) (fun c_13 => ?_) (fun c_13 => ?_)
    · refine lv_iconst (v := 0) hx hb dX0_countBad_63 (by decide) ?_
      rw [bI_f (fun h => h c_13)] at J64_7
      exact J64_7
    · refine lv_iconst (v := 1) hx hb dX0_countBad_59 (by decide) ?_
      refine lv_goto (tgt := 64) hx hb dX0_countBad_60 (by decide) ?_
      rw [bI_t c_13] at J64_7
      exact J64_7

def fX0_countGood (f : Nat → Int32) : Nat → Int32 := if (f 7) = 1 then (if ((f 9) + 1) = 1 then (upd (upd (upd f 7 0) 8 0) 9 ((f 9) + 1)) else (if (f 7) = 2 then (if ((f 9) + 1) = (f 3) then (upd (upd (upd (upd f 7 3) 8 0) 9 ((f 9) + 1)) 10 0) else (upd (upd f 8 0) 9 ((f 9) + 1))) else (upd (upd f 8 0) 9 ((f 9) + 1)))) else (if (f 7) = 2 then (if ((f 9) + 1) = (f 3) then (upd (upd (upd (upd f 7 3) 8 0) 9 ((f 9) + 1)) 10 0) else (upd (upd f 8 0) 9 ((f 9) + 1))) else (upd (upd f 8 0) 9 ((f 9) + 1)))
set_option maxHeartbeats 4000000 in
set_option maxRecDepth 100000 in
theorem tX0_countGood (l : Launch) (D : va_G) (cI cZ cC : ClassId) (h r1 r2 : Nat) (f : Nat → Int32) : WrV l yX0_countGood wsX0_countGood (rmK 0) D cI cZ cC [.ref h] ([(h, .inr (0, kF r1 r2 f))]) ([(h, .inr (0, kF r1 r2 (fX0_countGood f)))]) := by
  refine WrV.of (cc := cX0_countGood) (maxL := 1) (by decide) rfl (Nat.le_of_ble_eq_true rfl) ?_
  intro p e s m args below meth c Q A ls hx hb hml hts hown hK hP hD hS hA hret hl
  have hl : lv_has ls 1 [(0, .ref h)] := hl
  have hinX0 : ∀ w ∈ u_ws RX0 TX0 18, w ∈ wsX0_countGood := (fun w h => List.mem_cons_of_mem _ (List.mem_append_right _ h))
  refine lv_aload_n hx hb dX0_countGood_0 rfl (lv_at hl 0 rfl) ?_
  refine lv_iconst (v := 0) hx hb dX0_countGood_1 (by decide) ?_
  refine va_put (D := D) (ci := 0) (v := .int 0) (ty := .int) (C := RX0) (T := TX0) (N := 18) hx hb hts hinX0 tyX0 tyX0_ok nmX0 hown hK hP hD hS 0 rfl rfl 8 (by decide) (hts (.fieldLink RX0 15 "TroubleCodes$Check" "badCount" "I") (mem_at 1 rfl)) (fun _ h9 => h9) rfl (by decide +kernel) rfl rfl (Nat.le_of_ble_eq_true rfl) dX0_countGood_2 (fun H locs hP hD hS => ?_)
  have hP : va_P D vwCl ([(h, .inr (0, kF r1 r2 (upd f 8 0)))]) H := hP
  have hD : va_D A ([(h, .inr (0, kF r1 r2 (upd f 8 0)))]) := hD
  refine lv_aload_n hx hb dX0_countGood_5 rfl (lv_at hl 0 rfl) ?_
  refine lv_dup hx hb dX0_countGood_6 rfl ?_
  refine va_get (D := D) (ci := 0) (v := .int (f 9)) (C := RX0) (T := TX0) (N := 18) hx hb hts hinX0 hown hK hP 0 rfl rfl 9 (by decide) (hts (.fieldLink RX0 18 "TroubleCodes$Check" "goodCount" "I") (mem_at 2 rfl)) (fun _ h9 => h9) rfl dX0_countGood_7 ?_
  refine lv_iconst (v := 1) hx hb dX0_countGood_10 (by decide) ?_
  refine lv_iadd hx hb dX0_countGood_11 ?_
  refine va_put (D := D) (ci := 0) (v := .int ((f 9) + 1)) (ty := .int) (C := RX0) (T := TX0) (N := 18) hx hb hts hinX0 tyX0 tyX0_ok nmX0 hown hK hP hD hS 0 rfl rfl 9 (by decide) (hts (.fieldLink RX0 18 "TroubleCodes$Check" "goodCount" "I") (mem_at 2 rfl)) (fun _ h9 => h9) rfl (by decide +kernel) rfl rfl (Nat.le_of_ble_eq_true rfl) dX0_countGood_12 (fun H locs hP hD hS => ?_)
  have hP : va_P D vwCl ([(h, .inr (0, kF r1 r2 (upd (upd f 8 0) 9 ((f 9) + 1))))]) H := hP
  have hD : va_D A ([(h, .inr (0, kF r1 r2 (upd (upd f 8 0) 9 ((f 9) + 1))))]) := hD
  refine lv_aload_n hx hb dX0_countGood_15 rfl (lv_at hl 0 rfl) ?_
  refine va_get (D := D) (ci := 0) (v := .int (f 7)) (C := RX0) (T := TX0) (N := 18) hx hb hts hinX0 hown hK hP 0 rfl rfl 7 (by decide) (hts (.fieldLink RX0 11 "TroubleCodes$Check" "code" "I") (mem_at 3 rfl)) (fun _ h9 => h9) rfl dX0_countGood_16 ?_
  refine lv_iconst (v := 1) hx hb dX0_countGood_19 (by decide) ?_
  refine lv_icmp_ne (tgt := 39) hx hb dX0_countGood_20 (by decide) (fun c_1 => ?_) (fun c_1 => ?_)
  · refine lv_aload_n hx hb dX0_countGood_39 rfl (lv_at hl 0 rfl) ?_
    refine va_get (D := D) (ci := 0) (v := .int (f 7)) (C := RX0) (T := TX0) (N := 18) hx hb hts hinX0 hown hK hP 0 rfl rfl 7 (by decide) (hts (.fieldLink RX0 11 "TroubleCodes$Check" "code" "I") (mem_at 3 rfl)) (fun _ h9 => h9) rfl dX0_countGood_40 ?_
    refine lv_iconst (v := 2) hx hb dX0_countGood_43 (by decide) ?_
    refine lv_icmp_ne (tgt := 68) hx hb dX0_countGood_44 (by decide) (fun c_2 => ?_) (fun c_2 => ?_)
    · have es : fX0_countGood f = upd (upd f 8 0) 9 ((f 9) + 1) := by rw [fX0_countGood]; rw [if_neg c_1, if_neg c_2]
      exact hret 68 _ _ _ (by rw [es]; exact hP) (by rw [es]; exact hD) hS dX0_countGood_68
    · refine lv_aload_n hx hb dX0_countGood_47 rfl (lv_at hl 0 rfl) ?_
      refine va_get (D := D) (ci := 0) (v := .int ((f 9) + 1)) (C := RX0) (T := TX0) (N := 18) hx hb hts hinX0 hown hK hP 0 rfl rfl 9 (by decide) (hts (.fieldLink RX0 18 "TroubleCodes$Check" "goodCount" "I") (mem_at 2 rfl)) (fun _ h9 => h9) rfl dX0_countGood_48 ?_
      refine lv_aload_n hx hb dX0_countGood_51 rfl (lv_at hl 0 rfl) ?_
      refine va_get (D := D) (ci := 0) (v := .int (f 3)) (C := RX0) (T := TX0) (N := 18) hx hb hts hinX0 hown hK hP 0 rfl rfl 3 (by decide) (hts (.fieldLink RX0 56 "TroubleCodes$Check" "goodLimit" "I") (mem_at 4 rfl)) (fun _ h9 => h9) rfl dX0_countGood_52 ?_
      refine lv_icmp_ne (tgt := 68) hx hb dX0_countGood_55 (by decide) (fun c_3 => ?_) (fun c_3 => ?_)
      · have es : fX0_countGood f = upd (upd f 8 0) 9 ((f 9) + 1) := by rw [fX0_countGood]; rw [if_neg c_1, if_pos c_2, if_neg c_3]
        exact hret 68 _ _ _ (by rw [es]; exact hP) (by rw [es]; exact hD) hS dX0_countGood_68
      · refine lv_aload_n hx hb dX0_countGood_58 rfl (lv_at hl 0 rfl) ?_
        refine lv_iconst (v := 3) hx hb dX0_countGood_59 (by decide) ?_
        refine va_put (D := D) (ci := 0) (v := .int 3) (ty := .int) (C := RX0) (T := TX0) (N := 18) hx hb hts hinX0 tyX0 tyX0_ok nmX0 hown hK hP hD hS 0 rfl rfl 7 (by decide) (hts (.fieldLink RX0 11 "TroubleCodes$Check" "code" "I") (mem_at 3 rfl)) (fun _ h9 => h9) rfl (by decide +kernel) rfl rfl (Nat.le_of_ble_eq_true rfl) dX0_countGood_60 (fun H locs hP hD hS => ?_)
        have hP : va_P D vwCl ([(h, .inr (0, kF r1 r2 (upd (upd (upd f 7 3) 8 0) 9 ((f 9) + 1))))]) H := hP
        have hD : va_D A ([(h, .inr (0, kF r1 r2 (upd (upd (upd f 7 3) 8 0) 9 ((f 9) + 1))))]) := hD
        refine lv_aload_n hx hb dX0_countGood_63 rfl (lv_at hl 0 rfl) ?_
        refine lv_iconst (v := 0) hx hb dX0_countGood_64 (by decide) ?_
        refine va_put (D := D) (ci := 0) (v := .int 0) (ty := .int) (C := RX0) (T := TX0) (N := 18) hx hb hts hinX0 tyX0 tyX0_ok nmX0 hown hK hP hD hS 0 rfl rfl 10 (by decide) (hts (.fieldLink RX0 21 "TroubleCodes$Check" "age" "I") (mem_at 5 rfl)) (fun _ h9 => h9) rfl (by decide +kernel) rfl rfl (Nat.le_of_ble_eq_true rfl) dX0_countGood_65 (fun H locs hP hD hS => ?_)
        have hP : va_P D vwCl ([(h, .inr (0, kF r1 r2 (upd (upd (upd (upd f 7 3) 8 0) 9 ((f 9) + 1)) 10 0)))]) H := hP
        have hD : va_D A ([(h, .inr (0, kF r1 r2 (upd (upd (upd (upd f 7 3) 8 0) 9 ((f 9) + 1)) 10 0)))]) := hD
        have es : fX0_countGood f = upd (upd (upd (upd f 7 3) 8 0) 9 ((f 9) + 1)) 10 0 := by rw [fX0_countGood]; rw [if_neg c_1, if_pos c_2, if_pos c_3]
        exact hret 68 _ _ _ (by rw [es]; exact hP) (by rw [es]; exact hD) hS dX0_countGood_68
  · refine lv_aload_n hx hb dX0_countGood_23 rfl (lv_at hl 0 rfl) ?_
    refine va_get (D := D) (ci := 0) (v := .int ((f 9) + 1)) (C := RX0) (T := TX0) (N := 18) hx hb hts hinX0 hown hK hP 0 rfl rfl 9 (by decide) (hts (.fieldLink RX0 18 "TroubleCodes$Check" "goodCount" "I") (mem_at 2 rfl)) (fun _ h9 => h9) rfl dX0_countGood_24 ?_
    refine lv_iconst (v := 1) hx hb dX0_countGood_27 (by decide) ?_
    refine lv_icmp_ne (tgt := 39) hx hb dX0_countGood_28 (by decide) (fun c_4 => ?_) (fun c_4 => ?_)
    · refine lv_aload_n hx hb dX0_countGood_39 rfl (lv_at hl 0 rfl) ?_
      refine va_get (D := D) (ci := 0) (v := .int (f 7)) (C := RX0) (T := TX0) (N := 18) hx hb hts hinX0 hown hK hP 0 rfl rfl 7 (by decide) (hts (.fieldLink RX0 11 "TroubleCodes$Check" "code" "I") (mem_at 3 rfl)) (fun _ h9 => h9) rfl dX0_countGood_40 ?_
      refine lv_iconst (v := 2) hx hb dX0_countGood_43 (by decide) ?_
      refine lv_icmp_ne (tgt := 68) hx hb dX0_countGood_44 (by decide) (fun c_5 => ?_) (fun c_5 => ?_)
      · have es : fX0_countGood f = upd (upd f 8 0) 9 ((f 9) + 1) := by rw [fX0_countGood]; rw [if_pos c_1, if_neg c_4, if_neg c_5]
        exact hret 68 _ _ _ (by rw [es]; exact hP) (by rw [es]; exact hD) hS dX0_countGood_68
      · refine lv_aload_n hx hb dX0_countGood_47 rfl (lv_at hl 0 rfl) ?_
        refine va_get (D := D) (ci := 0) (v := .int ((f 9) + 1)) (C := RX0) (T := TX0) (N := 18) hx hb hts hinX0 hown hK hP 0 rfl rfl 9 (by decide) (hts (.fieldLink RX0 18 "TroubleCodes$Check" "goodCount" "I") (mem_at 2 rfl)) (fun _ h9 => h9) rfl dX0_countGood_48 ?_
        refine lv_aload_n hx hb dX0_countGood_51 rfl (lv_at hl 0 rfl) ?_
        refine va_get (D := D) (ci := 0) (v := .int (f 3)) (C := RX0) (T := TX0) (N := 18) hx hb hts hinX0 hown hK hP 0 rfl rfl 3 (by decide) (hts (.fieldLink RX0 56 "TroubleCodes$Check" "goodLimit" "I") (mem_at 4 rfl)) (fun _ h9 => h9) rfl dX0_countGood_52 ?_
        refine lv_icmp_ne (tgt := 68) hx hb dX0_countGood_55 (by decide) (fun c_6 => ?_) (fun c_6 => ?_)
        · have es : fX0_countGood f = upd (upd f 8 0) 9 ((f 9) + 1) := by rw [fX0_countGood]; rw [if_pos c_1, if_neg c_4, if_pos c_5, if_neg c_6]
          exact hret 68 _ _ _ (by rw [es]; exact hP) (by rw [es]; exact hD) hS dX0_countGood_68
        · refine lv_aload_n hx hb dX0_countGood_58 rfl (lv_at hl 0 rfl) ?_
          refine lv_iconst (v := 3) hx hb dX0_countGood_59 (by decide) ?_
          refine va_put (D := D) (ci := 0) (v := .int 3) (ty := .int) (C := RX0) (T := TX0) (N := 18) hx hb hts hinX0 tyX0 tyX0_ok nmX0 hown hK hP hD hS 0 rfl rfl 7 (by decide) (hts (.fieldLink RX0 11 "TroubleCodes$Check" "code" "I") (mem_at 3 rfl)) (fun _ h9 => h9) rfl (by decide +kernel) rfl rfl (Nat.le_of_ble_eq_true rfl) dX0_countGood_60 (fun H locs hP hD hS => ?_)
          have hP : va_P D vwCl ([(h, .inr (0, kF r1 r2 (upd (upd (upd f 7 3) 8 0) 9 ((f 9) + 1))))]) H := hP
          have hD : va_D A ([(h, .inr (0, kF r1 r2 (upd (upd (upd f 7 3) 8 0) 9 ((f 9) + 1))))]) := hD
          refine lv_aload_n hx hb dX0_countGood_63 rfl (lv_at hl 0 rfl) ?_
          refine lv_iconst (v := 0) hx hb dX0_countGood_64 (by decide) ?_
          refine va_put (D := D) (ci := 0) (v := .int 0) (ty := .int) (C := RX0) (T := TX0) (N := 18) hx hb hts hinX0 tyX0 tyX0_ok nmX0 hown hK hP hD hS 0 rfl rfl 10 (by decide) (hts (.fieldLink RX0 21 "TroubleCodes$Check" "age" "I") (mem_at 5 rfl)) (fun _ h9 => h9) rfl (by decide +kernel) rfl rfl (Nat.le_of_ble_eq_true rfl) dX0_countGood_65 (fun H locs hP hD hS => ?_)
          have hP : va_P D vwCl ([(h, .inr (0, kF r1 r2 (upd (upd (upd (upd f 7 3) 8 0) 9 ((f 9) + 1)) 10 0)))]) H := hP
          have hD : va_D A ([(h, .inr (0, kF r1 r2 (upd (upd (upd (upd f 7 3) 8 0) 9 ((f 9) + 1)) 10 0)))]) := hD
          have es : fX0_countGood f = upd (upd (upd (upd f 7 3) 8 0) 9 ((f 9) + 1)) 10 0 := by rw [fX0_countGood]; rw [if_pos c_1, if_neg c_4, if_pos c_5, if_pos c_6]
          exact hret 68 _ _ _ (by rw [es]; exact hP) (by rw [es]; exact hD) hS dX0_countGood_68
    · refine lv_aload_n hx hb dX0_countGood_31 rfl (lv_at hl 0 rfl) ?_
      refine lv_iconst (v := 0) hx hb dX0_countGood_32 (by decide) ?_
      refine va_put (D := D) (ci := 0) (v := .int 0) (ty := .int) (C := RX0) (T := TX0) (N := 18) hx hb hts hinX0 tyX0 tyX0_ok nmX0 hown hK hP hD hS 0 rfl rfl 7 (by decide) (hts (.fieldLink RX0 11 "TroubleCodes$Check" "code" "I") (mem_at 3 rfl)) (fun _ h9 => h9) rfl (by decide +kernel) rfl rfl (Nat.le_of_ble_eq_true rfl) dX0_countGood_33 (fun H locs hP hD hS => ?_)
      have hP : va_P D vwCl ([(h, .inr (0, kF r1 r2 (upd (upd (upd f 7 0) 8 0) 9 ((f 9) + 1))))]) H := hP
      have hD : va_D A ([(h, .inr (0, kF r1 r2 (upd (upd (upd f 7 0) 8 0) 9 ((f 9) + 1))))]) := hD
      refine lv_goto (tgt := 68) hx hb dX0_countGood_36 (by decide) ?_
      have es : fX0_countGood f = upd (upd (upd f 7 0) 8 0) 9 ((f 9) + 1) := by rw [fX0_countGood]; rw [if_pos c_1, if_pos c_4]
      exact hret 68 _ _ _ (by rw [es]; exact hP) (by rw [es]; exact hD) hS dX0_countGood_68

def fX0_growOlder (f : Nat → Int32) : Nat → Int32 := if (f 4) ≤ ((f 10) + 1) then (fX0_thaw (upd (upd f 7 0) 10 ((f 10) + 1))) else (upd f 10 ((f 10) + 1))
set_option maxHeartbeats 4000000 in
set_option maxRecDepth 100000 in
theorem tX0_growOlder (l : Launch) (D : va_G) (cI cZ cC : ClassId) (h r1 r2 : Nat) (f : Nat → Int32) : WrV l yX0_growOlder wsX0_growOlder (rmK 1) D cI cZ cC [.ref h] ([(h, .inr (0, kF r1 r2 f))]) ([(h, .inr (0, kF r1 r2 (fX0_growOlder f)))]) := by
  refine WrV.of (cc := cX0_growOlder) (maxL := 1) (by decide) rfl (Nat.le_of_ble_eq_true rfl) ?_
  intro p e s m args below meth c Q A ls hx hb hml hts hown hK hP hD hS hA hret hl
  have hl : lv_has ls 1 [(0, .ref h)] := hl
  have hinX0 : ∀ w ∈ u_ws RX0 TX0 18, w ∈ wsX0_growOlder := (fun w h => List.mem_cons_of_mem _ (List.mem_append_right _ h))
  refine lv_aload_n hx hb dX0_growOlder_0 rfl (lv_at hl 0 rfl) ?_
  refine lv_dup hx hb dX0_growOlder_1 rfl ?_
  refine va_get (D := D) (ci := 0) (v := .int (f 10)) (C := RX0) (T := TX0) (N := 18) hx hb hts hinX0 hown hK hP 0 rfl rfl 10 (by decide) (hts (.fieldLink RX0 21 "TroubleCodes$Check" "age" "I") (mem_at 1 rfl)) (fun _ h9 => h9) rfl dX0_growOlder_2 ?_
  refine lv_iconst (v := 1) hx hb dX0_growOlder_5 (by decide) ?_
  refine lv_iadd hx hb dX0_growOlder_6 ?_
  refine va_put (D := D) (ci := 0) (v := .int ((f 10) + 1)) (ty := .int) (C := RX0) (T := TX0) (N := 18) hx hb hts hinX0 tyX0 tyX0_ok nmX0 hown hK hP hD hS 0 rfl rfl 10 (by decide) (hts (.fieldLink RX0 21 "TroubleCodes$Check" "age" "I") (mem_at 1 rfl)) (fun _ h9 => h9) rfl (by decide +kernel) rfl rfl (Nat.le_of_ble_eq_true rfl) dX0_growOlder_7 (fun H locs hP hD hS => ?_)
  have hP : va_P D vwCl ([(h, .inr (0, kF r1 r2 (upd f 10 ((f 10) + 1))))]) H := hP
  have hD : va_D A ([(h, .inr (0, kF r1 r2 (upd f 10 ((f 10) + 1))))]) := hD
  refine lv_aload_n hx hb dX0_growOlder_10 rfl (lv_at hl 0 rfl) ?_
  refine va_get (D := D) (ci := 0) (v := .int ((f 10) + 1)) (C := RX0) (T := TX0) (N := 18) hx hb hts hinX0 hown hK hP 0 rfl rfl 10 (by decide) (hts (.fieldLink RX0 21 "TroubleCodes$Check" "age" "I") (mem_at 1 rfl)) (fun _ h9 => h9) rfl dX0_growOlder_11 ?_
  refine lv_aload_n hx hb dX0_growOlder_14 rfl (lv_at hl 0 rfl) ?_
  refine va_get (D := D) (ci := 0) (v := .int (f 4)) (C := RX0) (T := TX0) (N := 18) hx hb hts hinX0 hown hK hP 0 rfl rfl 4 (by decide) (hts (.fieldLink RX0 59 "TroubleCodes$Check" "ageLimit" "I") (mem_at 2 rfl)) (fun _ h9 => h9) rfl dX0_growOlder_15 ?_
  refine lv_icmp_ge (tgt := 22) hx hb dX0_growOlder_18 (by decide) (fun c_1 => ?_) (fun c_1 => ?_)
  · refine lv_aload_n hx hb dX0_growOlder_22 rfl (lv_at hl 0 rfl) ?_
    refine lv_iconst (v := 0) hx hb dX0_growOlder_23 (by decide) ?_
    refine va_put (D := D) (ci := 0) (v := .int 0) (ty := .int) (C := RX0) (T := TX0) (N := 18) hx hb hts hinX0 tyX0 tyX0_ok nmX0 hown hK hP hD hS 0 rfl rfl 7 (by decide) (hts (.fieldLink RX0 11 "TroubleCodes$Check" "code" "I") (mem_at 3 rfl)) (fun _ h9 => h9) rfl (by decide +kernel) rfl rfl (Nat.le_of_ble_eq_true rfl) dX0_growOlder_24 (fun H locs hP hD hS => ?_)
    have hP : va_P D vwCl ([(h, .inr (0, kF r1 r2 (upd (upd f 7 0) 10 ((f 10) + 1))))]) H := hP
    have hD : va_D A ([(h, .inr (0, kF r1 r2 (upd (upd f 7 0) 10 ((f 10) + 1))))]) := hD
    refine lv_aload_n hx hb dX0_growOlder_27 rfl (lv_at hl 0 rfl) ?_
    refine x_wvW (As := []) (rest := []) ⟨hx, hb, hml, hown, hts⟩ (tX0_thaw l D cI cZ cC h r1 r2 (upd (upd f 7 0) 10 ((f 10) + 1))) (cwV 0 hts gX0_growOlder_X0_thaw rfl rfl rfl (by decide +kernel) ⟨Nat.le_of_ble_eq_true rfl, Nat.le_of_ble_eq_true rfl⟩) hK (x_recv (ci := 0) hK hP rfl (q0 := 0) rfl) hP hD hS hA rfl hl.1 rfl (Nat.le_of_ble_eq_true rfl) dX0_growOlder_28 ⟨Nat.le_of_ble_eq_true rfl, Nat.le_of_ble_eq_true rfl⟩ (fun H locs hP hD hS => ?_)
    have es : fX0_growOlder f = (fX0_thaw (upd (upd f 7 0) 10 ((f 10) + 1))) := by rw [fX0_growOlder]; rw [if_pos c_1]
    exact hret 31 _ _ _ (by rw [es]; exact hP) (by rw [es]; exact hD) hS dX0_growOlder_31
  · have es : fX0_growOlder f = upd f 10 ((f 10) + 1) := by rw [fX0_growOlder]; rw [if_neg c_1]
    exact hret 21 _ _ _ (by rw [es]; exact hP) (by rw [es]; exact hD) hS dX0_growOlder_21

theorem cb01 (f : Nat → Int32) (b : Int32) : (fX0_countBad f b).1 = 0 ∨ (fX0_countBad f b).1 = 1 := by
  unfold fX0_countBad
  repeat' split
  all_goals first | exact Or.inl rfl | exact Or.inr rfl

def fX0_countDrive (f : Nat → Int32) (b : Int32) : Int32 × (Nat → Int32) := if (f 11) = 2 then (if (((fX0_countBad f b).2) 7) = 3 then (if (((fX0_countBad f b).2) 11) = 2 then (if (((fX0_countBad f b).2) 11) = 0 then ((fX0_countBad f b).1, upd ((fX0_countBad f b).2) 11 0) else ((fX0_countBad f b).1, upd (upd ((fX0_countBad f b).2) 11 0) 12 1)) else (if ((fX0_growOlder ((fX0_countBad f b).2)) 11) = 0 then ((fX0_countBad f b).1, upd (fX0_growOlder ((fX0_countBad f b).2)) 11 0) else ((fX0_countBad f b).1, upd (upd (fX0_growOlder ((fX0_countBad f b).2)) 11 0) 12 1))) else (if (((fX0_countBad f b).2) 11) = 0 then ((fX0_countBad f b).1, upd ((fX0_countBad f b).2) 11 0) else ((fX0_countBad f b).1, upd (upd ((fX0_countBad f b).2) 11 0) 12 1))) else (if (f 11) = 1 then (if ((fX0_countGood f) 7) = 3 then (if ((fX0_countGood f) 11) = 2 then (if ((fX0_countGood f) 11) = 0 then (0, upd (fX0_countGood f) 11 0) else (0, upd (upd (fX0_countGood f) 11 0) 12 1)) else (if ((fX0_growOlder (fX0_countGood f)) 11) = 0 then (0, upd (fX0_growOlder (fX0_countGood f)) 11 0) else (0, upd (upd (fX0_growOlder (fX0_countGood f)) 11 0) 12 1))) else (if ((fX0_countGood f) 11) = 0 then (0, upd (fX0_countGood f) 11 0) else (0, upd (upd (fX0_countGood f) 11 0) 12 1))) else (if (f 7) = 3 then (if (f 11) = 2 then (if (f 11) = 0 then (0, upd f 11 0) else (0, upd (upd f 11 0) 12 1)) else (if ((fX0_growOlder f) 11) = 0 then (0, upd (fX0_growOlder f) 11 0) else (0, upd (upd (fX0_growOlder f) 11 0) 12 1))) else (if (f 11) = 0 then (0, upd f 11 0) else (0, upd (upd f 11 0) 12 1))))
set_option maxHeartbeats 4000000 in
set_option maxRecDepth 100000 in
theorem tX0_countDrive (l : Launch) (D : va_G) (cI cZ cC : ClassId) (h r1 r2 : Nat) (f : Nat → Int32) (b : Int32) : WrI l yX0_countDrive wsX0_countDrive (rmK 2) D cI cZ cC [.ref h, .int b] ([(h, .inr (0, kF r1 r2 f))]) ([(h, .inr (0, kF r1 r2 ((fX0_countDrive f b).2)))]) (fun ans => ans = (fX0_countDrive f b).1) := by
  refine WrI.of (cc := cX0_countDrive) (maxL := 3) (ret := .boolean) (by decide) rfl (Nat.le_of_ble_eq_true rfl) ?_
  intro p e s m args below meth c Q A ls hx hb hml hts hown hK hP hD hS hA hret hl
  have hl : lv_has ls 3 [(0, .ref h), (1, .int b)] := hl
  have hinX0 : ∀ w ∈ u_ws RX0 TX0 18, w ∈ wsX0_countDrive := (fun w h => List.mem_cons_of_mem _ (List.mem_append_right _ h))
  refine lv_iconst (v := 0) hx hb dX0_countDrive_0 (by decide) ?_
  refine lv_istore_n (lv' := [(2, .int 0), (0, .ref h), (1, .int b)]) hx hb dX0_countDrive_1 rfl hl (by decide) rfl (fun ls hl => ?_)
  refine lv_aload_n hx hb dX0_countDrive_2 rfl (lv_at hl 1 rfl) ?_
  refine va_get (D := D) (ci := 0) (v := .int (f 11)) (C := RX0) (T := TX0) (N := 18) hx hb hts hinX0 hown hK hP 0 rfl rfl 11 (by decide) (hts (.fieldLink RX0 24 "TroubleCodes$Check" "told" "I") (mem_at 1 rfl)) (fun _ h9 => h9) rfl dX0_countDrive_3 ?_
  refine lv_iconst (v := 2) hx hb dX0_countDrive_6 (by decide) ?_
  refine lv_icmp_ne (tgt := 19) hx hb dX0_countDrive_7 (by decide) (fun c_1 => ?_) (fun c_1 => ?_)
  · refine lv_aload_n hx hb dX0_countDrive_19 rfl (lv_at hl 1 rfl) ?_
    refine va_get (D := D) (ci := 0) (v := .int (f 11)) (C := RX0) (T := TX0) (N := 18) hx hb hts hinX0 hown hK hP 0 rfl rfl 11 (by decide) (hts (.fieldLink RX0 24 "TroubleCodes$Check" "told" "I") (mem_at 1 rfl)) (fun _ h9 => h9) rfl dX0_countDrive_20 ?_
    refine lv_iconst (v := 1) hx hb dX0_countDrive_23 (by decide) ?_
    refine lv_icmp_ne (tgt := 31) hx hb dX0_countDrive_24 (by decide) (fun c_2 => ?_) (fun c_2 => ?_)
    · refine lv_aload_n hx hb dX0_countDrive_31 rfl (lv_at hl 1 rfl) ?_
      refine va_get (D := D) (ci := 0) (v := .int (f 7)) (C := RX0) (T := TX0) (N := 18) hx hb hts hinX0 hown hK hP 0 rfl rfl 7 (by decide) (hts (.fieldLink RX0 11 "TroubleCodes$Check" "code" "I") (mem_at 2 rfl)) (fun _ h9 => h9) rfl dX0_countDrive_32 ?_
      refine lv_iconst (v := 3) hx hb dX0_countDrive_35 (by decide) ?_
      refine lv_icmp_ne (tgt := 51) hx hb dX0_countDrive_36 (by decide) (fun c_3 => ?_) (fun c_3 => ?_)
      · refine lv_aload_n hx hb dX0_countDrive_51 rfl (lv_at hl 1 rfl) ?_
        refine va_get (D := D) (ci := 0) (v := .int (f 11)) (C := RX0) (T := TX0) (N := 18) hx hb hts hinX0 hown hK hP 0 rfl rfl 11 (by decide) (hts (.fieldLink RX0 24 "TroubleCodes$Check" "told" "I") (mem_at 1 rfl)) (fun _ h9 => h9) rfl dX0_countDrive_52 ?_
        refine lv_if_eq (tgt := 63) hx hb dX0_countDrive_55 (by decide) (fun c_4 => ?_) (fun c_4 => ?_)
        · refine lv_aload_n hx hb dX0_countDrive_63 rfl (lv_at hl 1 rfl) ?_
          refine lv_iconst (v := 0) hx hb dX0_countDrive_64 (by decide) ?_
          refine va_put (D := D) (ci := 0) (v := .int 0) (ty := .int) (C := RX0) (T := TX0) (N := 18) hx hb hts hinX0 tyX0 tyX0_ok nmX0 hown hK hP hD hS 0 rfl rfl 11 (by decide) (hts (.fieldLink RX0 24 "TroubleCodes$Check" "told" "I") (mem_at 1 rfl)) (fun _ h9 => h9) rfl (by decide +kernel) rfl rfl (Nat.le_of_ble_eq_true rfl) dX0_countDrive_65 (fun H locs hP hD hS => ?_)
          have hP : va_P D vwCl ([(h, .inr (0, kF r1 r2 (upd f 11 0)))]) H := hP
          have hD : va_D A ([(h, .inr (0, kF r1 r2 (upd f 11 0)))]) := hD
          refine lv_iload_n hx hb dX0_countDrive_68 rfl (lv_at hl 0 rfl) ?_
          have es : fX0_countDrive f b = (0, upd f 11 0) := by rw [fX0_countDrive]; rw [if_neg c_1, if_neg c_2, if_neg c_3, if_pos c_4]
          exact hret 69 _ _ _ _ (by rw [es]) (by rw [es]; exact hP) (by rw [es]; exact hD) hS rfl dX0_countDrive_69
        · refine lv_aload_n hx hb dX0_countDrive_58 rfl (lv_at hl 1 rfl) ?_
          refine lv_iconst (v := 1) hx hb dX0_countDrive_59 (by decide) ?_
          refine va_put (D := D) (ci := 0) (v := .int 1) (ty := .boolean) (C := RX0) (T := TX0) (N := 18) hx hb hts hinX0 tyX0 tyX0_ok nmX0 hown hK hP hD hS 0 rfl rfl 12 (by decide) (hts (.fieldLink RX0 27 "TroubleCodes$Check" "ranSinceCleared" "Z") (mem_at 3 rfl)) (fun _ h9 => h9) rfl (by decide +kernel) rfl rfl (Nat.le_of_ble_eq_true rfl) dX0_countDrive_60 (fun H locs hP hD hS => ?_)
          have hP : va_P D vwCl ([(h, .inr (0, kF r1 r2 (upd f 12 1)))]) H := hP
          have hD : va_D A ([(h, .inr (0, kF r1 r2 (upd f 12 1)))]) := hD
          refine lv_aload_n hx hb dX0_countDrive_63 rfl (lv_at hl 1 rfl) ?_
          refine lv_iconst (v := 0) hx hb dX0_countDrive_64 (by decide) ?_
          refine va_put (D := D) (ci := 0) (v := .int 0) (ty := .int) (C := RX0) (T := TX0) (N := 18) hx hb hts hinX0 tyX0 tyX0_ok nmX0 hown hK hP hD hS 0 rfl rfl 11 (by decide) (hts (.fieldLink RX0 24 "TroubleCodes$Check" "told" "I") (mem_at 1 rfl)) (fun _ h9 => h9) rfl (by decide +kernel) rfl rfl (Nat.le_of_ble_eq_true rfl) dX0_countDrive_65 (fun H locs hP hD hS => ?_)
          have hP : va_P D vwCl ([(h, .inr (0, kF r1 r2 (upd (upd f 11 0) 12 1)))]) H := hP
          have hD : va_D A ([(h, .inr (0, kF r1 r2 (upd (upd f 11 0) 12 1)))]) := hD
          refine lv_iload_n hx hb dX0_countDrive_68 rfl (lv_at hl 0 rfl) ?_
          have es : fX0_countDrive f b = (0, upd (upd f 11 0) 12 1) := by rw [fX0_countDrive]; rw [if_neg c_1, if_neg c_2, if_neg c_3, if_neg c_4]
          exact hret 69 _ _ _ _ (by rw [es]) (by rw [es]; exact hP) (by rw [es]; exact hD) hS rfl dX0_countDrive_69
      · refine lv_aload_n hx hb dX0_countDrive_39 rfl (lv_at hl 1 rfl) ?_
        refine va_get (D := D) (ci := 0) (v := .int (f 11)) (C := RX0) (T := TX0) (N := 18) hx hb hts hinX0 hown hK hP 0 rfl rfl 11 (by decide) (hts (.fieldLink RX0 24 "TroubleCodes$Check" "told" "I") (mem_at 1 rfl)) (fun _ h9 => h9) rfl dX0_countDrive_40 ?_
        refine lv_iconst (v := 2) hx hb dX0_countDrive_43 (by decide) ?_
        refine lv_icmp_eq (tgt := 51) hx hb dX0_countDrive_44 (by decide) (fun c_5 => ?_) (fun c_5 => ?_)
        · refine lv_aload_n hx hb dX0_countDrive_51 rfl (lv_at hl 1 rfl) ?_
          refine va_get (D := D) (ci := 0) (v := .int (f 11)) (C := RX0) (T := TX0) (N := 18) hx hb hts hinX0 hown hK hP 0 rfl rfl 11 (by decide) (hts (.fieldLink RX0 24 "TroubleCodes$Check" "told" "I") (mem_at 1 rfl)) (fun _ h9 => h9) rfl dX0_countDrive_52 ?_
          refine lv_if_eq (tgt := 63) hx hb dX0_countDrive_55 (by decide) (fun c_6 => ?_) (fun c_6 => ?_)
          · refine lv_aload_n hx hb dX0_countDrive_63 rfl (lv_at hl 1 rfl) ?_
            refine lv_iconst (v := 0) hx hb dX0_countDrive_64 (by decide) ?_
            refine va_put (D := D) (ci := 0) (v := .int 0) (ty := .int) (C := RX0) (T := TX0) (N := 18) hx hb hts hinX0 tyX0 tyX0_ok nmX0 hown hK hP hD hS 0 rfl rfl 11 (by decide) (hts (.fieldLink RX0 24 "TroubleCodes$Check" "told" "I") (mem_at 1 rfl)) (fun _ h9 => h9) rfl (by decide +kernel) rfl rfl (Nat.le_of_ble_eq_true rfl) dX0_countDrive_65 (fun H locs hP hD hS => ?_)
            have hP : va_P D vwCl ([(h, .inr (0, kF r1 r2 (upd f 11 0)))]) H := hP
            have hD : va_D A ([(h, .inr (0, kF r1 r2 (upd f 11 0)))]) := hD
            refine lv_iload_n hx hb dX0_countDrive_68 rfl (lv_at hl 0 rfl) ?_
            have es : fX0_countDrive f b = (0, upd f 11 0) := by rw [fX0_countDrive]; rw [if_neg c_1, if_neg c_2, if_pos c_3, if_pos c_5, if_pos c_6]
            exact hret 69 _ _ _ _ (by rw [es]) (by rw [es]; exact hP) (by rw [es]; exact hD) hS rfl dX0_countDrive_69
          · refine lv_aload_n hx hb dX0_countDrive_58 rfl (lv_at hl 1 rfl) ?_
            refine lv_iconst (v := 1) hx hb dX0_countDrive_59 (by decide) ?_
            refine va_put (D := D) (ci := 0) (v := .int 1) (ty := .boolean) (C := RX0) (T := TX0) (N := 18) hx hb hts hinX0 tyX0 tyX0_ok nmX0 hown hK hP hD hS 0 rfl rfl 12 (by decide) (hts (.fieldLink RX0 27 "TroubleCodes$Check" "ranSinceCleared" "Z") (mem_at 3 rfl)) (fun _ h9 => h9) rfl (by decide +kernel) rfl rfl (Nat.le_of_ble_eq_true rfl) dX0_countDrive_60 (fun H locs hP hD hS => ?_)
            have hP : va_P D vwCl ([(h, .inr (0, kF r1 r2 (upd f 12 1)))]) H := hP
            have hD : va_D A ([(h, .inr (0, kF r1 r2 (upd f 12 1)))]) := hD
            refine lv_aload_n hx hb dX0_countDrive_63 rfl (lv_at hl 1 rfl) ?_
            refine lv_iconst (v := 0) hx hb dX0_countDrive_64 (by decide) ?_
            refine va_put (D := D) (ci := 0) (v := .int 0) (ty := .int) (C := RX0) (T := TX0) (N := 18) hx hb hts hinX0 tyX0 tyX0_ok nmX0 hown hK hP hD hS 0 rfl rfl 11 (by decide) (hts (.fieldLink RX0 24 "TroubleCodes$Check" "told" "I") (mem_at 1 rfl)) (fun _ h9 => h9) rfl (by decide +kernel) rfl rfl (Nat.le_of_ble_eq_true rfl) dX0_countDrive_65 (fun H locs hP hD hS => ?_)
            have hP : va_P D vwCl ([(h, .inr (0, kF r1 r2 (upd (upd f 11 0) 12 1)))]) H := hP
            have hD : va_D A ([(h, .inr (0, kF r1 r2 (upd (upd f 11 0) 12 1)))]) := hD
            refine lv_iload_n hx hb dX0_countDrive_68 rfl (lv_at hl 0 rfl) ?_
            have es : fX0_countDrive f b = (0, upd (upd f 11 0) 12 1) := by rw [fX0_countDrive]; rw [if_neg c_1, if_neg c_2, if_pos c_3, if_pos c_5, if_neg c_6]
            exact hret 69 _ _ _ _ (by rw [es]) (by rw [es]; exact hP) (by rw [es]; exact hD) hS rfl dX0_countDrive_69
        · refine lv_aload_n hx hb dX0_countDrive_47 rfl (lv_at hl 1 rfl) ?_
          refine x_wvW (As := []) (rest := []) ⟨hx, hb, hml, hown, hts⟩ (tX0_growOlder l D cI cZ cC h r1 r2 f) (cwV 0 hts gX0_countDrive_X0_growOlder rfl rfl rfl (by decide +kernel) ⟨Nat.le_of_ble_eq_true rfl, Nat.le_of_ble_eq_true rfl⟩) hK (x_recv (ci := 0) hK hP rfl (q0 := 0) rfl) hP hD hS hA rfl hl.1 rfl (Nat.le_of_ble_eq_true rfl) dX0_countDrive_48 ⟨Nat.le_of_ble_eq_true rfl, Nat.le_of_ble_eq_true rfl⟩ (fun H locs hP hD hS => ?_)
          refine lv_aload_n hx hb dX0_countDrive_51 rfl (lv_at hl 1 rfl) ?_
          refine va_get (D := D) (ci := 0) (v := .int ((fX0_growOlder f) 11)) (C := RX0) (T := TX0) (N := 18) hx hb hts hinX0 hown hK hP 0 rfl rfl 11 (by decide) (hts (.fieldLink RX0 24 "TroubleCodes$Check" "told" "I") (mem_at 1 rfl)) (fun _ h9 => h9) rfl dX0_countDrive_52 ?_
          refine lv_if_eq (tgt := 63) hx hb dX0_countDrive_55 (by decide) (fun c_7 => ?_) (fun c_7 => ?_)
          · refine lv_aload_n hx hb dX0_countDrive_63 rfl (lv_at hl 1 rfl) ?_
            refine lv_iconst (v := 0) hx hb dX0_countDrive_64 (by decide) ?_
            refine va_put (D := D) (ci := 0) (v := .int 0) (ty := .int) (C := RX0) (T := TX0) (N := 18) hx hb hts hinX0 tyX0 tyX0_ok nmX0 hown hK hP hD hS 0 rfl rfl 11 (by decide) (hts (.fieldLink RX0 24 "TroubleCodes$Check" "told" "I") (mem_at 1 rfl)) (fun _ h9 => h9) rfl (by decide +kernel) rfl rfl (Nat.le_of_ble_eq_true rfl) dX0_countDrive_65 (fun H locs hP hD hS => ?_)
            have hP : va_P D vwCl ([(h, .inr (0, kF r1 r2 (upd (fX0_growOlder f) 11 0)))]) H := hP
            have hD : va_D A ([(h, .inr (0, kF r1 r2 (upd (fX0_growOlder f) 11 0)))]) := hD
            refine lv_iload_n hx hb dX0_countDrive_68 rfl (lv_at hl 0 rfl) ?_
            have es : fX0_countDrive f b = (0, upd (fX0_growOlder f) 11 0) := by rw [fX0_countDrive]; rw [if_neg c_1, if_neg c_2, if_pos c_3, if_neg c_5, if_pos c_7]
            exact hret 69 _ _ _ _ (by rw [es]) (by rw [es]; exact hP) (by rw [es]; exact hD) hS rfl dX0_countDrive_69
          · refine lv_aload_n hx hb dX0_countDrive_58 rfl (lv_at hl 1 rfl) ?_
            refine lv_iconst (v := 1) hx hb dX0_countDrive_59 (by decide) ?_
            refine va_put (D := D) (ci := 0) (v := .int 1) (ty := .boolean) (C := RX0) (T := TX0) (N := 18) hx hb hts hinX0 tyX0 tyX0_ok nmX0 hown hK hP hD hS 0 rfl rfl 12 (by decide) (hts (.fieldLink RX0 27 "TroubleCodes$Check" "ranSinceCleared" "Z") (mem_at 3 rfl)) (fun _ h9 => h9) rfl (by decide +kernel) rfl rfl (Nat.le_of_ble_eq_true rfl) dX0_countDrive_60 (fun H locs hP hD hS => ?_)
            have hP : va_P D vwCl ([(h, .inr (0, kF r1 r2 (upd (fX0_growOlder f) 12 1)))]) H := hP
            have hD : va_D A ([(h, .inr (0, kF r1 r2 (upd (fX0_growOlder f) 12 1)))]) := hD
            refine lv_aload_n hx hb dX0_countDrive_63 rfl (lv_at hl 1 rfl) ?_
            refine lv_iconst (v := 0) hx hb dX0_countDrive_64 (by decide) ?_
            refine va_put (D := D) (ci := 0) (v := .int 0) (ty := .int) (C := RX0) (T := TX0) (N := 18) hx hb hts hinX0 tyX0 tyX0_ok nmX0 hown hK hP hD hS 0 rfl rfl 11 (by decide) (hts (.fieldLink RX0 24 "TroubleCodes$Check" "told" "I") (mem_at 1 rfl)) (fun _ h9 => h9) rfl (by decide +kernel) rfl rfl (Nat.le_of_ble_eq_true rfl) dX0_countDrive_65 (fun H locs hP hD hS => ?_)
            have hP : va_P D vwCl ([(h, .inr (0, kF r1 r2 (upd (upd (fX0_growOlder f) 11 0) 12 1)))]) H := hP
            have hD : va_D A ([(h, .inr (0, kF r1 r2 (upd (upd (fX0_growOlder f) 11 0) 12 1)))]) := hD
            refine lv_iload_n hx hb dX0_countDrive_68 rfl (lv_at hl 0 rfl) ?_
            have es : fX0_countDrive f b = (0, upd (upd (fX0_growOlder f) 11 0) 12 1) := by rw [fX0_countDrive]; rw [if_neg c_1, if_neg c_2, if_pos c_3, if_neg c_5, if_neg c_7]
            exact hret 69 _ _ _ _ (by rw [es]) (by rw [es]; exact hP) (by rw [es]; exact hD) hS rfl dX0_countDrive_69
    · refine lv_aload_n hx hb dX0_countDrive_27 rfl (lv_at hl 1 rfl) ?_
      refine x_wvW (As := []) (rest := []) ⟨hx, hb, hml, hown, hts⟩ (tX0_countGood l D cI cZ cC h r1 r2 f) (cwV 0 hts gX0_countDrive_X0_countGood rfl rfl rfl (by decide +kernel) ⟨Nat.le_of_ble_eq_true rfl, Nat.le_of_ble_eq_true rfl⟩) hK (x_recv (ci := 0) hK hP rfl (q0 := 0) rfl) hP hD hS hA rfl hl.1 rfl (Nat.le_of_ble_eq_true rfl) dX0_countDrive_28 ⟨Nat.le_of_ble_eq_true rfl, Nat.le_of_ble_eq_true rfl⟩ (fun H locs hP hD hS => ?_)
      refine lv_aload_n hx hb dX0_countDrive_31 rfl (lv_at hl 1 rfl) ?_
      refine va_get (D := D) (ci := 0) (v := .int ((fX0_countGood f) 7)) (C := RX0) (T := TX0) (N := 18) hx hb hts hinX0 hown hK hP 0 rfl rfl 7 (by decide) (hts (.fieldLink RX0 11 "TroubleCodes$Check" "code" "I") (mem_at 2 rfl)) (fun _ h9 => h9) rfl dX0_countDrive_32 ?_
      refine lv_iconst (v := 3) hx hb dX0_countDrive_35 (by decide) ?_
      refine lv_icmp_ne (tgt := 51) hx hb dX0_countDrive_36 (by decide) (fun c_8 => ?_) (fun c_8 => ?_)
      · refine lv_aload_n hx hb dX0_countDrive_51 rfl (lv_at hl 1 rfl) ?_
        refine va_get (D := D) (ci := 0) (v := .int ((fX0_countGood f) 11)) (C := RX0) (T := TX0) (N := 18) hx hb hts hinX0 hown hK hP 0 rfl rfl 11 (by decide) (hts (.fieldLink RX0 24 "TroubleCodes$Check" "told" "I") (mem_at 1 rfl)) (fun _ h9 => h9) rfl dX0_countDrive_52 ?_
        refine lv_if_eq (tgt := 63) hx hb dX0_countDrive_55 (by decide) (fun c_9 => ?_) (fun c_9 => ?_)
        · refine lv_aload_n hx hb dX0_countDrive_63 rfl (lv_at hl 1 rfl) ?_
          refine lv_iconst (v := 0) hx hb dX0_countDrive_64 (by decide) ?_
          refine va_put (D := D) (ci := 0) (v := .int 0) (ty := .int) (C := RX0) (T := TX0) (N := 18) hx hb hts hinX0 tyX0 tyX0_ok nmX0 hown hK hP hD hS 0 rfl rfl 11 (by decide) (hts (.fieldLink RX0 24 "TroubleCodes$Check" "told" "I") (mem_at 1 rfl)) (fun _ h9 => h9) rfl (by decide +kernel) rfl rfl (Nat.le_of_ble_eq_true rfl) dX0_countDrive_65 (fun H locs hP hD hS => ?_)
          have hP : va_P D vwCl ([(h, .inr (0, kF r1 r2 (upd (fX0_countGood f) 11 0)))]) H := hP
          have hD : va_D A ([(h, .inr (0, kF r1 r2 (upd (fX0_countGood f) 11 0)))]) := hD
          refine lv_iload_n hx hb dX0_countDrive_68 rfl (lv_at hl 0 rfl) ?_
          have es : fX0_countDrive f b = (0, upd (fX0_countGood f) 11 0) := by rw [fX0_countDrive]; rw [if_neg c_1, if_pos c_2, if_neg c_8, if_pos c_9]
          exact hret 69 _ _ _ _ (by rw [es]) (by rw [es]; exact hP) (by rw [es]; exact hD) hS rfl dX0_countDrive_69
        · refine lv_aload_n hx hb dX0_countDrive_58 rfl (lv_at hl 1 rfl) ?_
          refine lv_iconst (v := 1) hx hb dX0_countDrive_59 (by decide) ?_
          refine va_put (D := D) (ci := 0) (v := .int 1) (ty := .boolean) (C := RX0) (T := TX0) (N := 18) hx hb hts hinX0 tyX0 tyX0_ok nmX0 hown hK hP hD hS 0 rfl rfl 12 (by decide) (hts (.fieldLink RX0 27 "TroubleCodes$Check" "ranSinceCleared" "Z") (mem_at 3 rfl)) (fun _ h9 => h9) rfl (by decide +kernel) rfl rfl (Nat.le_of_ble_eq_true rfl) dX0_countDrive_60 (fun H locs hP hD hS => ?_)
          have hP : va_P D vwCl ([(h, .inr (0, kF r1 r2 (upd (fX0_countGood f) 12 1)))]) H := hP
          have hD : va_D A ([(h, .inr (0, kF r1 r2 (upd (fX0_countGood f) 12 1)))]) := hD
          refine lv_aload_n hx hb dX0_countDrive_63 rfl (lv_at hl 1 rfl) ?_
          refine lv_iconst (v := 0) hx hb dX0_countDrive_64 (by decide) ?_
          refine va_put (D := D) (ci := 0) (v := .int 0) (ty := .int) (C := RX0) (T := TX0) (N := 18) hx hb hts hinX0 tyX0 tyX0_ok nmX0 hown hK hP hD hS 0 rfl rfl 11 (by decide) (hts (.fieldLink RX0 24 "TroubleCodes$Check" "told" "I") (mem_at 1 rfl)) (fun _ h9 => h9) rfl (by decide +kernel) rfl rfl (Nat.le_of_ble_eq_true rfl) dX0_countDrive_65 (fun H locs hP hD hS => ?_)
          have hP : va_P D vwCl ([(h, .inr (0, kF r1 r2 (upd (upd (fX0_countGood f) 11 0) 12 1)))]) H := hP
          have hD : va_D A ([(h, .inr (0, kF r1 r2 (upd (upd (fX0_countGood f) 11 0) 12 1)))]) := hD
          refine lv_iload_n hx hb dX0_countDrive_68 rfl (lv_at hl 0 rfl) ?_
          have es : fX0_countDrive f b = (0, upd (upd (fX0_countGood f) 11 0) 12 1) := by rw [fX0_countDrive]; rw [if_neg c_1, if_pos c_2, if_neg c_8, if_neg c_9]
          exact hret 69 _ _ _ _ (by rw [es]) (by rw [es]; exact hP) (by rw [es]; exact hD) hS rfl dX0_countDrive_69
      · refine lv_aload_n hx hb dX0_countDrive_39 rfl (lv_at hl 1 rfl) ?_
        refine va_get (D := D) (ci := 0) (v := .int ((fX0_countGood f) 11)) (C := RX0) (T := TX0) (N := 18) hx hb hts hinX0 hown hK hP 0 rfl rfl 11 (by decide) (hts (.fieldLink RX0 24 "TroubleCodes$Check" "told" "I") (mem_at 1 rfl)) (fun _ h9 => h9) rfl dX0_countDrive_40 ?_
        refine lv_iconst (v := 2) hx hb dX0_countDrive_43 (by decide) ?_
        refine lv_icmp_eq (tgt := 51) hx hb dX0_countDrive_44 (by decide) (fun c_10 => ?_) (fun c_10 => ?_)
        · refine lv_aload_n hx hb dX0_countDrive_51 rfl (lv_at hl 1 rfl) ?_
          refine va_get (D := D) (ci := 0) (v := .int ((fX0_countGood f) 11)) (C := RX0) (T := TX0) (N := 18) hx hb hts hinX0 hown hK hP 0 rfl rfl 11 (by decide) (hts (.fieldLink RX0 24 "TroubleCodes$Check" "told" "I") (mem_at 1 rfl)) (fun _ h9 => h9) rfl dX0_countDrive_52 ?_
          refine lv_if_eq (tgt := 63) hx hb dX0_countDrive_55 (by decide) (fun c_11 => ?_) (fun c_11 => ?_)
          · refine lv_aload_n hx hb dX0_countDrive_63 rfl (lv_at hl 1 rfl) ?_
            refine lv_iconst (v := 0) hx hb dX0_countDrive_64 (by decide) ?_
            refine va_put (D := D) (ci := 0) (v := .int 0) (ty := .int) (C := RX0) (T := TX0) (N := 18) hx hb hts hinX0 tyX0 tyX0_ok nmX0 hown hK hP hD hS 0 rfl rfl 11 (by decide) (hts (.fieldLink RX0 24 "TroubleCodes$Check" "told" "I") (mem_at 1 rfl)) (fun _ h9 => h9) rfl (by decide +kernel) rfl rfl (Nat.le_of_ble_eq_true rfl) dX0_countDrive_65 (fun H locs hP hD hS => ?_)
            have hP : va_P D vwCl ([(h, .inr (0, kF r1 r2 (upd (fX0_countGood f) 11 0)))]) H := hP
            have hD : va_D A ([(h, .inr (0, kF r1 r2 (upd (fX0_countGood f) 11 0)))]) := hD
            refine lv_iload_n hx hb dX0_countDrive_68 rfl (lv_at hl 0 rfl) ?_
            have es : fX0_countDrive f b = (0, upd (fX0_countGood f) 11 0) := by rw [fX0_countDrive]; rw [if_neg c_1, if_pos c_2, if_pos c_8, if_pos c_10, if_pos c_11]
            exact hret 69 _ _ _ _ (by rw [es]) (by rw [es]; exact hP) (by rw [es]; exact hD) hS rfl dX0_countDrive_69
          · refine lv_aload_n hx hb dX0_countDrive_58 rfl (lv_at hl 1 rfl) ?_
            refine lv_iconst (v := 1) hx hb dX0_countDrive_59 (by decide) ?_
            refine va_put (D := D) (ci := 0) (v := .int 1) (ty := .boolean) (C := RX0) (T := TX0) (N := 18) hx hb hts hinX0 tyX0 tyX0_ok nmX0 hown hK hP hD hS 0 rfl rfl 12 (by decide) (hts (.fieldLink RX0 27 "TroubleCodes$Check" "ranSinceCleared" "Z") (mem_at 3 rfl)) (fun _ h9 => h9) rfl (by decide +kernel) rfl rfl (Nat.le_of_ble_eq_true rfl) dX0_countDrive_60 (fun H locs hP hD hS => ?_)
            have hP : va_P D vwCl ([(h, .inr (0, kF r1 r2 (upd (fX0_countGood f) 12 1)))]) H := hP
            have hD : va_D A ([(h, .inr (0, kF r1 r2 (upd (fX0_countGood f) 12 1)))]) := hD
            refine lv_aload_n hx hb dX0_countDrive_63 rfl (lv_at hl 1 rfl) ?_
            refine lv_iconst (v := 0) hx hb dX0_countDrive_64 (by decide) ?_
            refine va_put (D := D) (ci := 0) (v := .int 0) (ty := .int) (C := RX0) (T := TX0) (N := 18) hx hb hts hinX0 tyX0 tyX0_ok nmX0 hown hK hP hD hS 0 rfl rfl 11 (by decide) (hts (.fieldLink RX0 24 "TroubleCodes$Check" "told" "I") (mem_at 1 rfl)) (fun _ h9 => h9) rfl (by decide +kernel) rfl rfl (Nat.le_of_ble_eq_true rfl) dX0_countDrive_65 (fun H locs hP hD hS => ?_)
            have hP : va_P D vwCl ([(h, .inr (0, kF r1 r2 (upd (upd (fX0_countGood f) 11 0) 12 1)))]) H := hP
            have hD : va_D A ([(h, .inr (0, kF r1 r2 (upd (upd (fX0_countGood f) 11 0) 12 1)))]) := hD
            refine lv_iload_n hx hb dX0_countDrive_68 rfl (lv_at hl 0 rfl) ?_
            have es : fX0_countDrive f b = (0, upd (upd (fX0_countGood f) 11 0) 12 1) := by rw [fX0_countDrive]; rw [if_neg c_1, if_pos c_2, if_pos c_8, if_pos c_10, if_neg c_11]
            exact hret 69 _ _ _ _ (by rw [es]) (by rw [es]; exact hP) (by rw [es]; exact hD) hS rfl dX0_countDrive_69
        · refine lv_aload_n hx hb dX0_countDrive_47 rfl (lv_at hl 1 rfl) ?_
          refine x_wvW (As := []) (rest := []) ⟨hx, hb, hml, hown, hts⟩ (tX0_growOlder l D cI cZ cC h r1 r2 (fX0_countGood f)) (cwV 0 hts gX0_countDrive_X0_growOlder rfl rfl rfl (by decide +kernel) ⟨Nat.le_of_ble_eq_true rfl, Nat.le_of_ble_eq_true rfl⟩) hK (x_recv (ci := 0) hK hP rfl (q0 := 0) rfl) hP hD hS hA rfl hl.1 rfl (Nat.le_of_ble_eq_true rfl) dX0_countDrive_48 ⟨Nat.le_of_ble_eq_true rfl, Nat.le_of_ble_eq_true rfl⟩ (fun H locs hP hD hS => ?_)
          refine lv_aload_n hx hb dX0_countDrive_51 rfl (lv_at hl 1 rfl) ?_
          refine va_get (D := D) (ci := 0) (v := .int ((fX0_growOlder (fX0_countGood f)) 11)) (C := RX0) (T := TX0) (N := 18) hx hb hts hinX0 hown hK hP 0 rfl rfl 11 (by decide) (hts (.fieldLink RX0 24 "TroubleCodes$Check" "told" "I") (mem_at 1 rfl)) (fun _ h9 => h9) rfl dX0_countDrive_52 ?_
          refine lv_if_eq (tgt := 63) hx hb dX0_countDrive_55 (by decide) (fun c_12 => ?_) (fun c_12 => ?_)
          · refine lv_aload_n hx hb dX0_countDrive_63 rfl (lv_at hl 1 rfl) ?_
            refine lv_iconst (v := 0) hx hb dX0_countDrive_64 (by decide) ?_
            refine va_put (D := D) (ci := 0) (v := .int 0) (ty := .int) (C := RX0) (T := TX0) (N := 18) hx hb hts hinX0 tyX0 tyX0_ok nmX0 hown hK hP hD hS 0 rfl rfl 11 (by decide) (hts (.fieldLink RX0 24 "TroubleCodes$Check" "told" "I") (mem_at 1 rfl)) (fun _ h9 => h9) rfl (by decide +kernel) rfl rfl (Nat.le_of_ble_eq_true rfl) dX0_countDrive_65 (fun H locs hP hD hS => ?_)
            have hP : va_P D vwCl ([(h, .inr (0, kF r1 r2 (upd (fX0_growOlder (fX0_countGood f)) 11 0)))]) H := hP
            have hD : va_D A ([(h, .inr (0, kF r1 r2 (upd (fX0_growOlder (fX0_countGood f)) 11 0)))]) := hD
            refine lv_iload_n hx hb dX0_countDrive_68 rfl (lv_at hl 0 rfl) ?_
            have es : fX0_countDrive f b = (0, upd (fX0_growOlder (fX0_countGood f)) 11 0) := by rw [fX0_countDrive]; rw [if_neg c_1, if_pos c_2, if_pos c_8, if_neg c_10, if_pos c_12]
            exact hret 69 _ _ _ _ (by rw [es]) (by rw [es]; exact hP) (by rw [es]; exact hD) hS rfl dX0_countDrive_69
          · refine lv_aload_n hx hb dX0_countDrive_58 rfl (lv_at hl 1 rfl) ?_
            refine lv_iconst (v := 1) hx hb dX0_countDrive_59 (by decide) ?_
            refine va_put (D := D) (ci := 0) (v := .int 1) (ty := .boolean) (C := RX0) (T := TX0) (N := 18) hx hb hts hinX0 tyX0 tyX0_ok nmX0 hown hK hP hD hS 0 rfl rfl 12 (by decide) (hts (.fieldLink RX0 27 "TroubleCodes$Check" "ranSinceCleared" "Z") (mem_at 3 rfl)) (fun _ h9 => h9) rfl (by decide +kernel) rfl rfl (Nat.le_of_ble_eq_true rfl) dX0_countDrive_60 (fun H locs hP hD hS => ?_)
            have hP : va_P D vwCl ([(h, .inr (0, kF r1 r2 (upd (fX0_growOlder (fX0_countGood f)) 12 1)))]) H := hP
            have hD : va_D A ([(h, .inr (0, kF r1 r2 (upd (fX0_growOlder (fX0_countGood f)) 12 1)))]) := hD
            refine lv_aload_n hx hb dX0_countDrive_63 rfl (lv_at hl 1 rfl) ?_
            refine lv_iconst (v := 0) hx hb dX0_countDrive_64 (by decide) ?_
            refine va_put (D := D) (ci := 0) (v := .int 0) (ty := .int) (C := RX0) (T := TX0) (N := 18) hx hb hts hinX0 tyX0 tyX0_ok nmX0 hown hK hP hD hS 0 rfl rfl 11 (by decide) (hts (.fieldLink RX0 24 "TroubleCodes$Check" "told" "I") (mem_at 1 rfl)) (fun _ h9 => h9) rfl (by decide +kernel) rfl rfl (Nat.le_of_ble_eq_true rfl) dX0_countDrive_65 (fun H locs hP hD hS => ?_)
            have hP : va_P D vwCl ([(h, .inr (0, kF r1 r2 (upd (upd (fX0_growOlder (fX0_countGood f)) 11 0) 12 1)))]) H := hP
            have hD : va_D A ([(h, .inr (0, kF r1 r2 (upd (upd (fX0_growOlder (fX0_countGood f)) 11 0) 12 1)))]) := hD
            refine lv_iload_n hx hb dX0_countDrive_68 rfl (lv_at hl 0 rfl) ?_
            have es : fX0_countDrive f b = (0, upd (upd (fX0_growOlder (fX0_countGood f)) 11 0) 12 1) := by rw [fX0_countDrive]; rw [if_neg c_1, if_pos c_2, if_pos c_8, if_neg c_10, if_neg c_12]
            exact hret 69 _ _ _ _ (by rw [es]) (by rw [es]; exact hP) (by rw [es]; exact hD) hS rfl dX0_countDrive_69
  · refine lv_aload_n hx hb dX0_countDrive_10 rfl (lv_at hl 1 rfl) ?_
    refine lv_iload_n hx hb dX0_countDrive_11 rfl (lv_at hl 2 rfl) ?_
    refine x_wiW (As := [.int b]) (rest := []) ⟨hx, hb, hml, hown, hts⟩ (tX0_countBad l D cI cZ cC h r1 r2 f b) (cwV 1 hts gX0_countDrive_X0_countBad rfl rfl rfl (by decide +kernel) ⟨Nat.le_of_ble_eq_true rfl, Nat.le_of_ble_eq_true rfl⟩) hK (x_recv (ci := 0) hK hP rfl (q0 := 0) rfl) hP hD hS hA rfl hl.1 rfl (Nat.le_of_ble_eq_true rfl) dX0_countDrive_12 ⟨Nat.le_of_ble_eq_true rfl, Nat.le_of_ble_eq_true rfl⟩ (fun r_13 H locs er_13 hP hD hS => ?_)
    have er_13 : r_13 = (fX0_countBad f b).1 := er_13
    subst er_13
    refine lv_istore_n (lv' := [(2, .int ((fX0_countBad f b).1)), (0, .ref h), (1, .int b)]) hx hb dX0_countDrive_15 rfl hl (by decide) rfl (fun ls hl => ?_)
    refine lv_goto (tgt := 31) hx hb dX0_countDrive_16 (by decide) ?_
    refine lv_aload_n hx hb dX0_countDrive_31 rfl (lv_at hl 1 rfl) ?_
    refine va_get (D := D) (ci := 0) (v := .int (((fX0_countBad f b).2) 7)) (C := RX0) (T := TX0) (N := 18) hx hb hts hinX0 hown hK hP 0 rfl rfl 7 (by decide) (hts (.fieldLink RX0 11 "TroubleCodes$Check" "code" "I") (mem_at 2 rfl)) (fun _ h9 => h9) rfl dX0_countDrive_32 ?_
    refine lv_iconst (v := 3) hx hb dX0_countDrive_35 (by decide) ?_
    refine lv_icmp_ne (tgt := 51) hx hb dX0_countDrive_36 (by decide) (fun c_14 => ?_) (fun c_14 => ?_)
    · refine lv_aload_n hx hb dX0_countDrive_51 rfl (lv_at hl 1 rfl) ?_
      refine va_get (D := D) (ci := 0) (v := .int (((fX0_countBad f b).2) 11)) (C := RX0) (T := TX0) (N := 18) hx hb hts hinX0 hown hK hP 0 rfl rfl 11 (by decide) (hts (.fieldLink RX0 24 "TroubleCodes$Check" "told" "I") (mem_at 1 rfl)) (fun _ h9 => h9) rfl dX0_countDrive_52 ?_
      refine lv_if_eq (tgt := 63) hx hb dX0_countDrive_55 (by decide) (fun c_15 => ?_) (fun c_15 => ?_)
      · refine lv_aload_n hx hb dX0_countDrive_63 rfl (lv_at hl 1 rfl) ?_
        refine lv_iconst (v := 0) hx hb dX0_countDrive_64 (by decide) ?_
        refine va_put (D := D) (ci := 0) (v := .int 0) (ty := .int) (C := RX0) (T := TX0) (N := 18) hx hb hts hinX0 tyX0 tyX0_ok nmX0 hown hK hP hD hS 0 rfl rfl 11 (by decide) (hts (.fieldLink RX0 24 "TroubleCodes$Check" "told" "I") (mem_at 1 rfl)) (fun _ h9 => h9) rfl (by decide +kernel) rfl rfl (Nat.le_of_ble_eq_true rfl) dX0_countDrive_65 (fun H locs hP hD hS => ?_)
        have hP : va_P D vwCl ([(h, .inr (0, kF r1 r2 (upd ((fX0_countBad f b).2) 11 0)))]) H := hP
        have hD : va_D A ([(h, .inr (0, kF r1 r2 (upd ((fX0_countBad f b).2) 11 0)))]) := hD
        refine lv_iload_n hx hb dX0_countDrive_68 rfl (lv_at hl 0 rfl) ?_
        have es : fX0_countDrive f b = ((fX0_countBad f b).1, upd ((fX0_countBad f b).2) 11 0) := by rw [fX0_countDrive]; rw [if_pos c_1, if_neg c_14, if_pos c_15]
        exact hret 69 _ _ _ _ (by rw [es]) (by rw [es]; exact hP) (by rw [es]; exact hD) hS (nar1 (cb01 _ _)) dX0_countDrive_69
      · refine lv_aload_n hx hb dX0_countDrive_58 rfl (lv_at hl 1 rfl) ?_
        refine lv_iconst (v := 1) hx hb dX0_countDrive_59 (by decide) ?_
        refine va_put (D := D) (ci := 0) (v := .int 1) (ty := .boolean) (C := RX0) (T := TX0) (N := 18) hx hb hts hinX0 tyX0 tyX0_ok nmX0 hown hK hP hD hS 0 rfl rfl 12 (by decide) (hts (.fieldLink RX0 27 "TroubleCodes$Check" "ranSinceCleared" "Z") (mem_at 3 rfl)) (fun _ h9 => h9) rfl (by decide +kernel) rfl rfl (Nat.le_of_ble_eq_true rfl) dX0_countDrive_60 (fun H locs hP hD hS => ?_)
        have hP : va_P D vwCl ([(h, .inr (0, kF r1 r2 (upd ((fX0_countBad f b).2) 12 1)))]) H := hP
        have hD : va_D A ([(h, .inr (0, kF r1 r2 (upd ((fX0_countBad f b).2) 12 1)))]) := hD
        refine lv_aload_n hx hb dX0_countDrive_63 rfl (lv_at hl 1 rfl) ?_
        refine lv_iconst (v := 0) hx hb dX0_countDrive_64 (by decide) ?_
        refine va_put (D := D) (ci := 0) (v := .int 0) (ty := .int) (C := RX0) (T := TX0) (N := 18) hx hb hts hinX0 tyX0 tyX0_ok nmX0 hown hK hP hD hS 0 rfl rfl 11 (by decide) (hts (.fieldLink RX0 24 "TroubleCodes$Check" "told" "I") (mem_at 1 rfl)) (fun _ h9 => h9) rfl (by decide +kernel) rfl rfl (Nat.le_of_ble_eq_true rfl) dX0_countDrive_65 (fun H locs hP hD hS => ?_)
        have hP : va_P D vwCl ([(h, .inr (0, kF r1 r2 (upd (upd ((fX0_countBad f b).2) 11 0) 12 1)))]) H := hP
        have hD : va_D A ([(h, .inr (0, kF r1 r2 (upd (upd ((fX0_countBad f b).2) 11 0) 12 1)))]) := hD
        refine lv_iload_n hx hb dX0_countDrive_68 rfl (lv_at hl 0 rfl) ?_
        have es : fX0_countDrive f b = ((fX0_countBad f b).1, upd (upd ((fX0_countBad f b).2) 11 0) 12 1) := by rw [fX0_countDrive]; rw [if_pos c_1, if_neg c_14, if_neg c_15]
        exact hret 69 _ _ _ _ (by rw [es]) (by rw [es]; exact hP) (by rw [es]; exact hD) hS (nar1 (cb01 _ _)) dX0_countDrive_69
    · refine lv_aload_n hx hb dX0_countDrive_39 rfl (lv_at hl 1 rfl) ?_
      refine va_get (D := D) (ci := 0) (v := .int (((fX0_countBad f b).2) 11)) (C := RX0) (T := TX0) (N := 18) hx hb hts hinX0 hown hK hP 0 rfl rfl 11 (by decide) (hts (.fieldLink RX0 24 "TroubleCodes$Check" "told" "I") (mem_at 1 rfl)) (fun _ h9 => h9) rfl dX0_countDrive_40 ?_
      refine lv_iconst (v := 2) hx hb dX0_countDrive_43 (by decide) ?_
      refine lv_icmp_eq (tgt := 51) hx hb dX0_countDrive_44 (by decide) (fun c_16 => ?_) (fun c_16 => ?_)
      · refine lv_aload_n hx hb dX0_countDrive_51 rfl (lv_at hl 1 rfl) ?_
        refine va_get (D := D) (ci := 0) (v := .int (((fX0_countBad f b).2) 11)) (C := RX0) (T := TX0) (N := 18) hx hb hts hinX0 hown hK hP 0 rfl rfl 11 (by decide) (hts (.fieldLink RX0 24 "TroubleCodes$Check" "told" "I") (mem_at 1 rfl)) (fun _ h9 => h9) rfl dX0_countDrive_52 ?_
        refine lv_if_eq (tgt := 63) hx hb dX0_countDrive_55 (by decide) (fun c_17 => ?_) (fun c_17 => ?_)
        · refine lv_aload_n hx hb dX0_countDrive_63 rfl (lv_at hl 1 rfl) ?_
          refine lv_iconst (v := 0) hx hb dX0_countDrive_64 (by decide) ?_
          refine va_put (D := D) (ci := 0) (v := .int 0) (ty := .int) (C := RX0) (T := TX0) (N := 18) hx hb hts hinX0 tyX0 tyX0_ok nmX0 hown hK hP hD hS 0 rfl rfl 11 (by decide) (hts (.fieldLink RX0 24 "TroubleCodes$Check" "told" "I") (mem_at 1 rfl)) (fun _ h9 => h9) rfl (by decide +kernel) rfl rfl (Nat.le_of_ble_eq_true rfl) dX0_countDrive_65 (fun H locs hP hD hS => ?_)
          have hP : va_P D vwCl ([(h, .inr (0, kF r1 r2 (upd ((fX0_countBad f b).2) 11 0)))]) H := hP
          have hD : va_D A ([(h, .inr (0, kF r1 r2 (upd ((fX0_countBad f b).2) 11 0)))]) := hD
          refine lv_iload_n hx hb dX0_countDrive_68 rfl (lv_at hl 0 rfl) ?_
          have es : fX0_countDrive f b = ((fX0_countBad f b).1, upd ((fX0_countBad f b).2) 11 0) := by rw [fX0_countDrive]; rw [if_pos c_1, if_pos c_14, if_pos c_16, if_pos c_17]
          exact hret 69 _ _ _ _ (by rw [es]) (by rw [es]; exact hP) (by rw [es]; exact hD) hS (nar1 (cb01 _ _)) dX0_countDrive_69
        · refine lv_aload_n hx hb dX0_countDrive_58 rfl (lv_at hl 1 rfl) ?_
          refine lv_iconst (v := 1) hx hb dX0_countDrive_59 (by decide) ?_
          refine va_put (D := D) (ci := 0) (v := .int 1) (ty := .boolean) (C := RX0) (T := TX0) (N := 18) hx hb hts hinX0 tyX0 tyX0_ok nmX0 hown hK hP hD hS 0 rfl rfl 12 (by decide) (hts (.fieldLink RX0 27 "TroubleCodes$Check" "ranSinceCleared" "Z") (mem_at 3 rfl)) (fun _ h9 => h9) rfl (by decide +kernel) rfl rfl (Nat.le_of_ble_eq_true rfl) dX0_countDrive_60 (fun H locs hP hD hS => ?_)
          have hP : va_P D vwCl ([(h, .inr (0, kF r1 r2 (upd ((fX0_countBad f b).2) 12 1)))]) H := hP
          have hD : va_D A ([(h, .inr (0, kF r1 r2 (upd ((fX0_countBad f b).2) 12 1)))]) := hD
          refine lv_aload_n hx hb dX0_countDrive_63 rfl (lv_at hl 1 rfl) ?_
          refine lv_iconst (v := 0) hx hb dX0_countDrive_64 (by decide) ?_
          refine va_put (D := D) (ci := 0) (v := .int 0) (ty := .int) (C := RX0) (T := TX0) (N := 18) hx hb hts hinX0 tyX0 tyX0_ok nmX0 hown hK hP hD hS 0 rfl rfl 11 (by decide) (hts (.fieldLink RX0 24 "TroubleCodes$Check" "told" "I") (mem_at 1 rfl)) (fun _ h9 => h9) rfl (by decide +kernel) rfl rfl (Nat.le_of_ble_eq_true rfl) dX0_countDrive_65 (fun H locs hP hD hS => ?_)
          have hP : va_P D vwCl ([(h, .inr (0, kF r1 r2 (upd (upd ((fX0_countBad f b).2) 11 0) 12 1)))]) H := hP
          have hD : va_D A ([(h, .inr (0, kF r1 r2 (upd (upd ((fX0_countBad f b).2) 11 0) 12 1)))]) := hD
          refine lv_iload_n hx hb dX0_countDrive_68 rfl (lv_at hl 0 rfl) ?_
          have es : fX0_countDrive f b = ((fX0_countBad f b).1, upd (upd ((fX0_countBad f b).2) 11 0) 12 1) := by rw [fX0_countDrive]; rw [if_pos c_1, if_pos c_14, if_pos c_16, if_neg c_17]
          exact hret 69 _ _ _ _ (by rw [es]) (by rw [es]; exact hP) (by rw [es]; exact hD) hS (nar1 (cb01 _ _)) dX0_countDrive_69
      · refine lv_aload_n hx hb dX0_countDrive_47 rfl (lv_at hl 1 rfl) ?_
        refine x_wvW (As := []) (rest := []) ⟨hx, hb, hml, hown, hts⟩ (tX0_growOlder l D cI cZ cC h r1 r2 ((fX0_countBad f b).2)) (cwV 0 hts gX0_countDrive_X0_growOlder rfl rfl rfl (by decide +kernel) ⟨Nat.le_of_ble_eq_true rfl, Nat.le_of_ble_eq_true rfl⟩) hK (x_recv (ci := 0) hK hP rfl (q0 := 0) rfl) hP hD hS hA rfl hl.1 rfl (Nat.le_of_ble_eq_true rfl) dX0_countDrive_48 ⟨Nat.le_of_ble_eq_true rfl, Nat.le_of_ble_eq_true rfl⟩ (fun H locs hP hD hS => ?_)
        refine lv_aload_n hx hb dX0_countDrive_51 rfl (lv_at hl 1 rfl) ?_
        refine va_get (D := D) (ci := 0) (v := .int ((fX0_growOlder ((fX0_countBad f b).2)) 11)) (C := RX0) (T := TX0) (N := 18) hx hb hts hinX0 hown hK hP 0 rfl rfl 11 (by decide) (hts (.fieldLink RX0 24 "TroubleCodes$Check" "told" "I") (mem_at 1 rfl)) (fun _ h9 => h9) rfl dX0_countDrive_52 ?_
        refine lv_if_eq (tgt := 63) hx hb dX0_countDrive_55 (by decide) (fun c_18 => ?_) (fun c_18 => ?_)
        · refine lv_aload_n hx hb dX0_countDrive_63 rfl (lv_at hl 1 rfl) ?_
          refine lv_iconst (v := 0) hx hb dX0_countDrive_64 (by decide) ?_
          refine va_put (D := D) (ci := 0) (v := .int 0) (ty := .int) (C := RX0) (T := TX0) (N := 18) hx hb hts hinX0 tyX0 tyX0_ok nmX0 hown hK hP hD hS 0 rfl rfl 11 (by decide) (hts (.fieldLink RX0 24 "TroubleCodes$Check" "told" "I") (mem_at 1 rfl)) (fun _ h9 => h9) rfl (by decide +kernel) rfl rfl (Nat.le_of_ble_eq_true rfl) dX0_countDrive_65 (fun H locs hP hD hS => ?_)
          have hP : va_P D vwCl ([(h, .inr (0, kF r1 r2 (upd (fX0_growOlder ((fX0_countBad f b).2)) 11 0)))]) H := hP
          have hD : va_D A ([(h, .inr (0, kF r1 r2 (upd (fX0_growOlder ((fX0_countBad f b).2)) 11 0)))]) := hD
          refine lv_iload_n hx hb dX0_countDrive_68 rfl (lv_at hl 0 rfl) ?_
          have es : fX0_countDrive f b = ((fX0_countBad f b).1, upd (fX0_growOlder ((fX0_countBad f b).2)) 11 0) := by rw [fX0_countDrive]; rw [if_pos c_1, if_pos c_14, if_neg c_16, if_pos c_18]
          exact hret 69 _ _ _ _ (by rw [es]) (by rw [es]; exact hP) (by rw [es]; exact hD) hS (nar1 (cb01 _ _)) dX0_countDrive_69
        · refine lv_aload_n hx hb dX0_countDrive_58 rfl (lv_at hl 1 rfl) ?_
          refine lv_iconst (v := 1) hx hb dX0_countDrive_59 (by decide) ?_
          refine va_put (D := D) (ci := 0) (v := .int 1) (ty := .boolean) (C := RX0) (T := TX0) (N := 18) hx hb hts hinX0 tyX0 tyX0_ok nmX0 hown hK hP hD hS 0 rfl rfl 12 (by decide) (hts (.fieldLink RX0 27 "TroubleCodes$Check" "ranSinceCleared" "Z") (mem_at 3 rfl)) (fun _ h9 => h9) rfl (by decide +kernel) rfl rfl (Nat.le_of_ble_eq_true rfl) dX0_countDrive_60 (fun H locs hP hD hS => ?_)
          have hP : va_P D vwCl ([(h, .inr (0, kF r1 r2 (upd (fX0_growOlder ((fX0_countBad f b).2)) 12 1)))]) H := hP
          have hD : va_D A ([(h, .inr (0, kF r1 r2 (upd (fX0_growOlder ((fX0_countBad f b).2)) 12 1)))]) := hD
          refine lv_aload_n hx hb dX0_countDrive_63 rfl (lv_at hl 1 rfl) ?_
          refine lv_iconst (v := 0) hx hb dX0_countDrive_64 (by decide) ?_
          refine va_put (D := D) (ci := 0) (v := .int 0) (ty := .int) (C := RX0) (T := TX0) (N := 18) hx hb hts hinX0 tyX0 tyX0_ok nmX0 hown hK hP hD hS 0 rfl rfl 11 (by decide) (hts (.fieldLink RX0 24 "TroubleCodes$Check" "told" "I") (mem_at 1 rfl)) (fun _ h9 => h9) rfl (by decide +kernel) rfl rfl (Nat.le_of_ble_eq_true rfl) dX0_countDrive_65 (fun H locs hP hD hS => ?_)
          have hP : va_P D vwCl ([(h, .inr (0, kF r1 r2 (upd (upd (fX0_growOlder ((fX0_countBad f b).2)) 11 0) 12 1)))]) H := hP
          have hD : va_D A ([(h, .inr (0, kF r1 r2 (upd (upd (fX0_growOlder ((fX0_countBad f b).2)) 11 0) 12 1)))]) := hD
          refine lv_iload_n hx hb dX0_countDrive_68 rfl (lv_at hl 0 rfl) ?_
          have es : fX0_countDrive f b = ((fX0_countBad f b).1, upd (upd (fX0_growOlder ((fX0_countBad f b).2)) 11 0) 12 1) := by rw [fX0_countDrive]; rw [if_pos c_1, if_pos c_14, if_neg c_16, if_neg c_18]
          exact hret 69 _ _ _ _ (by rw [es]) (by rw [es]; exact hP) (by rw [es]; exact hD) hS (nar1 (cb01 _ _)) dX0_countDrive_69

def fX0_clearCode (f : Nat → Int32) : Int32 × (Nat → Int32) := if f 0 = 1 then (0, upd (upd (upd (upd f 8 0) 9 0) 10 0) 12 0) else (bI (¬ ((f 7) = 0)), (fX0_thaw (upd (upd (upd (upd (upd f 7 0) 8 0) 9 0) 10 0) 12 0)))
set_option maxHeartbeats 4000000 in
set_option maxRecDepth 100000 in
theorem tX0_clearCode (l : Launch) (D : va_G) (cI cZ cC : ClassId) (h r1 r2 : Nat) (f : Nat → Int32) : WrI l yX0_clearCode wsX0_clearCode (rmK 1) D cI cZ cC [.ref h] ([(h, .inr (0, kF r1 r2 f))]) ([(h, .inr (0, kF r1 r2 ((fX0_clearCode f).2)))]) (fun ans => ans = (fX0_clearCode f).1) := by
  refine WrI.of (cc := cX0_clearCode) (maxL := 2) (ret := .boolean) (by decide) rfl (Nat.le_of_ble_eq_true rfl) ?_
  intro p e s m args below meth c Q A ls hx hb hml hts hown hK hP hD hS hA hret hl
  have hl : lv_has ls 2 [(0, .ref h)] := hl
  have hinX0 : ∀ w ∈ u_ws RX0 TX0 18, w ∈ wsX0_clearCode := (fun w h => List.mem_cons_of_mem _ (List.mem_append_right _ h))
  refine lv_aload_n hx hb dX0_clearCode_0 rfl (lv_at hl 0 rfl) ?_
  refine lv_iconst (v := 0) hx hb dX0_clearCode_1 (by decide) ?_
  refine va_put (D := D) (ci := 0) (v := .int 0) (ty := .int) (C := RX0) (T := TX0) (N := 18) hx hb hts hinX0 tyX0 tyX0_ok nmX0 hown hK hP hD hS 0 rfl rfl 8 (by decide) (hts (.fieldLink RX0 15 "TroubleCodes$Check" "badCount" "I") (mem_at 1 rfl)) (fun _ h9 => h9) rfl (by decide +kernel) rfl rfl (Nat.le_of_ble_eq_true rfl) dX0_clearCode_2 (fun H locs hP hD hS => ?_)
  have hP : va_P D vwCl ([(h, .inr (0, kF r1 r2 (upd f 8 0)))]) H := hP
  have hD : va_D A ([(h, .inr (0, kF r1 r2 (upd f 8 0)))]) := hD
  refine lv_aload_n hx hb dX0_clearCode_5 rfl (lv_at hl 0 rfl) ?_
  refine lv_iconst (v := 0) hx hb dX0_clearCode_6 (by decide) ?_
  refine va_put (D := D) (ci := 0) (v := .int 0) (ty := .int) (C := RX0) (T := TX0) (N := 18) hx hb hts hinX0 tyX0 tyX0_ok nmX0 hown hK hP hD hS 0 rfl rfl 9 (by decide) (hts (.fieldLink RX0 18 "TroubleCodes$Check" "goodCount" "I") (mem_at 2 rfl)) (fun _ h9 => h9) rfl (by decide +kernel) rfl rfl (Nat.le_of_ble_eq_true rfl) dX0_clearCode_7 (fun H locs hP hD hS => ?_)
  have hP : va_P D vwCl ([(h, .inr (0, kF r1 r2 (upd (upd f 8 0) 9 0)))]) H := hP
  have hD : va_D A ([(h, .inr (0, kF r1 r2 (upd (upd f 8 0) 9 0)))]) := hD
  refine lv_aload_n hx hb dX0_clearCode_10 rfl (lv_at hl 0 rfl) ?_
  refine lv_iconst (v := 0) hx hb dX0_clearCode_11 (by decide) ?_
  refine va_put (D := D) (ci := 0) (v := .int 0) (ty := .int) (C := RX0) (T := TX0) (N := 18) hx hb hts hinX0 tyX0 tyX0_ok nmX0 hown hK hP hD hS 0 rfl rfl 10 (by decide) (hts (.fieldLink RX0 21 "TroubleCodes$Check" "age" "I") (mem_at 3 rfl)) (fun _ h9 => h9) rfl (by decide +kernel) rfl rfl (Nat.le_of_ble_eq_true rfl) dX0_clearCode_12 (fun H locs hP hD hS => ?_)
  have hP : va_P D vwCl ([(h, .inr (0, kF r1 r2 (upd (upd (upd f 8 0) 9 0) 10 0)))]) H := hP
  have hD : va_D A ([(h, .inr (0, kF r1 r2 (upd (upd (upd f 8 0) 9 0) 10 0)))]) := hD
  refine lv_aload_n hx hb dX0_clearCode_15 rfl (lv_at hl 0 rfl) ?_
  refine lv_iconst (v := 0) hx hb dX0_clearCode_16 (by decide) ?_
  refine va_put (D := D) (ci := 0) (v := .int 0) (ty := .boolean) (C := RX0) (T := TX0) (N := 18) hx hb hts hinX0 tyX0 tyX0_ok nmX0 hown hK hP hD hS 0 rfl rfl 12 (by decide) (hts (.fieldLink RX0 27 "TroubleCodes$Check" "ranSinceCleared" "Z") (mem_at 4 rfl)) (fun _ h9 => h9) rfl (by decide +kernel) rfl rfl (Nat.le_of_ble_eq_true rfl) dX0_clearCode_17 (fun H locs hP hD hS => ?_)
  have hP : va_P D vwCl ([(h, .inr (0, kF r1 r2 (upd (upd (upd (upd f 8 0) 9 0) 10 0) 12 0)))]) H := hP
  have hD : va_D A ([(h, .inr (0, kF r1 r2 (upd (upd (upd (upd f 8 0) 9 0) 10 0) 12 0)))]) := hD
  refine lv_aload_n hx hb dX0_clearCode_20 rfl (lv_at hl 0 rfl) ?_
  refine x_rdV (As := []) (rest := []) ⟨hx, hb, hml, hown, hts⟩ (tX0_isPermanent l D cI cZ cC h r1 r2 (upd (upd (upd (upd f 8 0) 9 0) 10 0) 12 0)) (cwV 0 hts gX0_clearCode_X0_isPermanent rfl rfl rfl (by decide +kernel) ⟨Nat.le_of_ble_eq_true rfl, Nat.le_of_ble_eq_true rfl⟩) hK (x_recv (ci := 0) hK hP rfl (q0 := 0) rfl) hP rfl hl.1 rfl (Nat.le_of_ble_eq_true rfl) dX0_clearCode_21 ⟨Nat.le_of_ble_eq_true rfl, Nat.le_of_ble_eq_true rfl⟩ (fun r_1 er_1 => ?_)
  have er_1 : r_1 = bI (f 0 = 1) := er_1
  subst er_1
  refine lv_if_eq (tgt := 29) hx hb dX0_clearCode_24 (by decide) (fun c_2 => ?_) (fun c_2 => ?_)
  · have c_2 := bI_eq c_2
    refine lv_aload_n hx hb dX0_clearCode_29 rfl (lv_at hl 0 rfl) ?_
    refine va_get (D := D) (ci := 0) (v := .int (f 7)) (C := RX0) (T := TX0) (N := 18) hx hb hts hinX0 hown hK hP 0 rfl rfl 7 (by decide) (hts (.fieldLink RX0 11 "TroubleCodes$Check" "code" "I") (mem_at 5 rfl)) (fun _ h9 => h9) rfl dX0_clearCode_30 ?_
    have J41_2 : W p l e (rmK 1) s m args below meth c H locs 0 0 Q (F0 m 41 ls [.int (bI (¬ ((f 7) = 0)))]) := by
      refine lv_istore_n (lv' := [(1, .int (bI (¬ ((f 7) = 0)))), (0, .ref h)]) hx hb dX0_clearCode_41 rfl hl (by decide) rfl (fun ls hl => ?_)
      refine lv_aload_n hx hb dX0_clearCode_42 rfl (lv_at hl 1 rfl) ?_
      refine lv_iconst (v := 0) hx hb dX0_clearCode_43 (by decide) ?_
      refine va_put (D := D) (ci := 0) (v := .int 0) (ty := .int) (C := RX0) (T := TX0) (N := 18) hx hb hts hinX0 tyX0 tyX0_ok nmX0 hown hK hP hD hS 0 rfl rfl 7 (by decide) (hts (.fieldLink RX0 11 "TroubleCodes$Check" "code" "I") (mem_at 5 rfl)) (fun _ h9 => h9) rfl (by decide +kernel) rfl rfl (Nat.le_of_ble_eq_true rfl) dX0_clearCode_44 (fun H locs hP hD hS => ?_)
      have hP : va_P D vwCl ([(h, .inr (0, kF r1 r2 (upd (upd (upd (upd (upd f 7 0) 8 0) 9 0) 10 0) 12 0)))]) H := hP
      have hD : va_D A ([(h, .inr (0, kF r1 r2 (upd (upd (upd (upd (upd f 7 0) 8 0) 9 0) 10 0) 12 0)))]) := hD
      refine lv_aload_n hx hb dX0_clearCode_47 rfl (lv_at hl 1 rfl) ?_
      refine x_wvW (As := []) (rest := []) ⟨hx, hb, hml, hown, hts⟩ (tX0_thaw l D cI cZ cC h r1 r2 (upd (upd (upd (upd (upd f 7 0) 8 0) 9 0) 10 0) 12 0)) (cwV 0 hts gX0_clearCode_X0_thaw rfl rfl rfl (by decide +kernel) ⟨Nat.le_of_ble_eq_true rfl, Nat.le_of_ble_eq_true rfl⟩) hK (x_recv (ci := 0) hK hP rfl (q0 := 0) rfl) hP hD hS hA rfl hl.1 rfl (Nat.le_of_ble_eq_true rfl) dX0_clearCode_48 ⟨Nat.le_of_ble_eq_true rfl, Nat.le_of_ble_eq_true rfl⟩ (fun H locs hP hD hS => ?_)
      refine lv_iload_n hx hb dX0_clearCode_51 rfl (lv_at hl 0 rfl) ?_
      have es : fX0_clearCode f = (bI (¬ ((f 7) = 0)), (fX0_thaw (upd (upd (upd (upd (upd f 7 0) 8 0) 9 0) 10 0) 12 0))) := by rw [fX0_clearCode]; rw [if_neg c_2]
      exact hret 52 _ _ _ _ (by rw [es]) (by rw [es]; exact hP) (by rw [es]; exact hD) hS (bI_nar _) dX0_clearCode_52
    refine lv_if_eq (tgt := 40) hx hb dX0_clearCode_33 (by decide) (fun c_4 => ?_) (fun c_4 => ?_)
    · refine lv_iconst (v := 0) hx hb dX0_clearCode_40 (by decide) ?_
      rw [bI_f (fun h => h c_4)] at J41_2
      exact J41_2
    · refine lv_iconst (v := 1) hx hb dX0_clearCode_36 (by decide) ?_
      refine lv_goto (tgt := 41) hx hb dX0_clearCode_37 (by decide) ?_
      rw [bI_t c_4] at J41_2
      exact J41_2
  · have c_2 := bI_ne c_2
    refine lv_iconst (v := 0) hx hb dX0_clearCode_27 (by decide) ?_
    have es : fX0_clearCode f = (0, upd (upd (upd (upd f 8 0) 9 0) 10 0) 12 0) := by rw [fX0_clearCode]; rw [if_pos c_2]
    exact hret 28 _ _ _ _ (by rw [es]) (by rw [es]; exact hP) (by rw [es]; exact hD) hS rfl dX0_clearCode_28

set_option maxHeartbeats 4000000 in
set_option maxRecDepth 100000 in
theorem tX0_goesAheadOf (l : Launch) (D : va_G) (cI cZ cC : ClassId) (h r1 r2 h2 r3 r4 : Nat) (f f2 : Nat → Int32) : RdC l yX0_goesAheadOf wsX0_goesAheadOf (rmK 0) D cI cZ cC [.ref h, .ref h2] (fun H => va_P D vwCl ([(h, .inr (0, kF r1 r2 f)), (h2, .inr (0, kF r3 r4 f2))]) H) (fun ans => ans = bI (f 5 < f2 5 ∨ (f 5 = f2 5 ∧ f 14 < f2 14))) := by
  refine RdC.of (cc := cX0_goesAheadOf) (maxL := 2) (ret := .boolean) (by decide) rfl (Nat.le_of_ble_eq_true rfl) ?_
  intro p e s m args below meth c Q ls hx hb hml hts hown hK hP hret hl
  have hl : lv_has ls 2 [(0, .ref h), (1, .ref h2)] := hl
  have hP : va_P D vwCl ([(h, .inr (0, kF r1 r2 f)), (h2, .inr (0, kF r3 r4 f2))]) s.heap := hP
  have hinX0 : ∀ w ∈ u_ws RX0 TX0 18, w ∈ wsX0_goesAheadOf := (fun w h => List.mem_cons_of_mem _ (List.mem_append_right _ h))
  refine lv_aload_n hx hb dX0_goesAheadOf_0 rfl (lv_at hl 0 rfl) ?_
  refine va_get (D := D) (ci := 0) (v := .int (f 5)) (C := RX0) (T := TX0) (N := 18) hx hb hts hinX0 hown hK hP 0 rfl rfl 5 (by decide) (hts (.fieldLink RX0 62 "TroubleCodes$Check" "weight" "I") (mem_at 1 rfl)) (fun _ h9 => h9) rfl dX0_goesAheadOf_1 ?_
  refine lv_aload_n hx hb dX0_goesAheadOf_4 rfl (lv_at hl 1 rfl) ?_
  refine va_get (D := D) (ci := 0) (v := .int (f2 5)) (C := RX0) (T := TX0) (N := 18) hx hb hts hinX0 hown hK hP 1 rfl rfl 5 (by decide) (hts (.fieldLink RX0 62 "TroubleCodes$Check" "weight" "I") (mem_at 1 rfl)) (fun _ h9 => h9) rfl dX0_goesAheadOf_5 ?_
  refine lv_icmp_lt (tgt := 33) hx hb dX0_goesAheadOf_8 (by decide) (fun c_1 => ?_) (fun c_1 => ?_)
  · refine lv_iconst (v := 1) hx hb dX0_goesAheadOf_33 (by decide) ?_
    refine lv_goto (tgt := 38) hx hb dX0_goesAheadOf_34 (by decide) ?_
    exact hret 38 _ _ (by simp [bI, c_1]) rfl dX0_goesAheadOf_38
  · refine lv_aload_n hx hb dX0_goesAheadOf_11 rfl (lv_at hl 0 rfl) ?_
    refine va_get (D := D) (ci := 0) (v := .int (f 5)) (C := RX0) (T := TX0) (N := 18) hx hb hts hinX0 hown hK hP 0 rfl rfl 5 (by decide) (hts (.fieldLink RX0 62 "TroubleCodes$Check" "weight" "I") (mem_at 1 rfl)) (fun _ h9 => h9) rfl dX0_goesAheadOf_12 ?_
    refine lv_aload_n hx hb dX0_goesAheadOf_15 rfl (lv_at hl 1 rfl) ?_
    refine va_get (D := D) (ci := 0) (v := .int (f2 5)) (C := RX0) (T := TX0) (N := 18) hx hb hts hinX0 hown hK hP 1 rfl rfl 5 (by decide) (hts (.fieldLink RX0 62 "TroubleCodes$Check" "weight" "I") (mem_at 1 rfl)) (fun _ h9 => h9) rfl dX0_goesAheadOf_16 ?_
    refine lv_icmp_ne (tgt := 37) hx hb dX0_goesAheadOf_19 (by decide) (fun c_2 => ?_) (fun c_2 => ?_)
    · refine lv_iconst (v := 0) hx hb dX0_goesAheadOf_37 (by decide) ?_
      exact hret 38 _ _ (by simp [bI, c_1, c_2]) rfl dX0_goesAheadOf_38
    · refine lv_aload_n hx hb dX0_goesAheadOf_22 rfl (lv_at hl 0 rfl) ?_
      refine va_get (D := D) (ci := 0) (v := .int (f 14)) (C := RX0) (T := TX0) (N := 18) hx hb hts hinX0 hown hK hP 0 rfl rfl 14 (by decide) (hts (.fieldLink RX0 34 "TroubleCodes$Check" "frozenOrder" "I") (mem_at 2 rfl)) (fun _ h9 => h9) rfl dX0_goesAheadOf_23 ?_
      refine lv_aload_n hx hb dX0_goesAheadOf_26 rfl (lv_at hl 1 rfl) ?_
      refine va_get (D := D) (ci := 0) (v := .int (f2 14)) (C := RX0) (T := TX0) (N := 18) hx hb hts hinX0 hown hK hP 1 rfl rfl 14 (by decide) (hts (.fieldLink RX0 34 "TroubleCodes$Check" "frozenOrder" "I") (mem_at 2 rfl)) (fun _ h9 => h9) rfl dX0_goesAheadOf_27 ?_
      refine lv_icmp_ge (tgt := 37) hx hb dX0_goesAheadOf_30 (by decide) (fun c_3 => ?_) (fun c_3 => ?_)
      · refine lv_iconst (v := 0) hx hb dX0_goesAheadOf_37 (by decide) ?_
        exact hret 38 _ _ (by simp [bI, c_1, c_2, c_3, Int32.not_lt.mpr c_3]) rfl dX0_goesAheadOf_38
      · refine lv_iconst (v := 1) hx hb dX0_goesAheadOf_33 (by decide) ?_
        refine lv_goto (tgt := 38) hx hb dX0_goesAheadOf_34 (by decide) ?_
        exact hret 38 _ _ (by simp [bI, c_1, c_2, c_3, Int32.not_le.mp c_3]) rfl dX0_goesAheadOf_38

def foB (a : Nat → Int32) (tb : Int32) (i : Nat) : Nat → Int32 := fun z => if z < i ∧ ¬ (tb >>> (nI z &&& 31)) &&& 1 = 0 then a z + 1 else a z
theorem foB_0 {a : Nat → Int32} {tb : Int32} : foB a tb 0 = a := by funext z; simp [foB]
theorem foB_k {a : Nat → Int32} {tb : Int32} {i : Nat} : foB a tb i i = a i := by simp [foB]
theorem foB_t {a : Nat → Int32} {tb : Int32} {i : Nat} (h : (tb >>> (nI i &&& 31)) &&& 1 = 0) : foB a tb (i + 1) = foB a tb i := by
  funext z
  simp only [foB]
  by_cases hz : z = i
  · subst hz; simp [h]
  · by_cases h2 : z < i
    · simp [h2, Nat.lt_succ_of_lt h2]
    · rw [if_neg (fun q => by omega), if_neg (fun q => by omega)]
theorem foB_f {a : Nat → Int32} {tb : Int32} {i : Nat} (h : ¬ (tb >>> (nI i &&& 31)) &&& 1 = 0) : foB a tb (i + 1) = upd (foB a tb i) i (a i + 1) := by
  funext z
  simp only [foB, upd]
  by_cases hz : z = i
  · subst hz; simp [h]
  · rw [if_neg hz]
    by_cases h2 : z < i
    · simp [h2, Nat.lt_succ_of_lt h2]
    · rw [if_neg (fun q => by omega), if_neg (fun q => by omega)]

set_option maxHeartbeats 4000000 in
set_option maxRecDepth 100000 in
theorem tX0_noteSet (l : Launch) (D : va_G) (cI cZ cC : ClassId) (h r1 r2 : Nat) (f : Nat → Int32) (a : Nat → Int32) (tb : Int32) : WrV l yX0_noteSet wsX0_noteSet (rmK 0) D cI cZ cC [.ref h, .int tb] ([(h, .inr (0, kF r1 r2 f)), (r2, .inl (cI, 16, .inl a))]) ([(h, .inr (0, kF r1 r2 (upd f 16 ((f 16) + 1)))), (r2, .inl (cI, 16, .inl (foB a tb 16)))]) := by
  refine WrV.of (cc := cX0_noteSet) (maxL := 3) (by decide) rfl (Nat.le_of_ble_eq_true rfl) ?_
  intro p e s m args below meth c Q A ls hx hb hml hts hown hK hP hD hS hA hret hl
  have hl : lv_has ls 3 [(0, .ref h), (1, .int tb)] := hl
  have hinX0 : ∀ w ∈ u_ws RX0 TX0 18, w ∈ wsX0_noteSet := (fun w h => List.mem_cons_of_mem _ (List.mem_append_right _ h))
  refine lv_aload_n hx hb dX0_noteSet_0 rfl (lv_at hl 0 rfl) ?_
  refine lv_dup hx hb dX0_noteSet_1 rfl ?_
  refine va_get (D := D) (ci := 0) (v := .int (f 16)) (C := RX0) (T := TX0) (N := 18) hx hb hts hinX0 hown hK hP 0 rfl rfl 16 (by decide) (hts (.fieldLink RX0 41 "TroubleCodes$Check" "setDrives" "I") (mem_at 1 rfl)) (fun _ h9 => h9) rfl dX0_noteSet_2 ?_
  refine lv_iconst (v := 1) hx hb dX0_noteSet_5 (by decide) ?_
  refine lv_iadd hx hb dX0_noteSet_6 ?_
  refine va_put (D := D) (ci := 0) (v := .int ((f 16) + 1)) (ty := .int) (C := RX0) (T := TX0) (N := 18) hx hb hts hinX0 tyX0 tyX0_ok nmX0 hown hK hP hD hS 0 rfl rfl 16 (by decide) (hts (.fieldLink RX0 41 "TroubleCodes$Check" "setDrives" "I") (mem_at 1 rfl)) (fun _ h9 => h9) rfl (by decide +kernel) rfl rfl (Nat.le_of_ble_eq_true rfl) dX0_noteSet_7 (fun H locs hP hD hS => ?_)
  have hP : va_P D vwCl ([(h, .inr (0, kF r1 r2 (upd f 16 ((f 16) + 1)))), (r2, .inl (cI, 16, .inl a))]) H := hP
  have hD : va_D A ([(h, .inr (0, kF r1 r2 (upd f 16 ((f 16) + 1)))), (r2, .inl (cI, 16, .inl a))]) := hD
  refine lv_iconst (v := 0) hx hb dX0_noteSet_10 (by decide) ?_
  refine lv_istore_n (lv' := [(2, .int 0), (0, .ref h), (1, .int tb)]) hx hb dX0_noteSet_11 rfl hl (by decide) rfl (fun ls hl => ?_)
  have LOOP_1 : ∀ (fu i : Nat), i ≤ 16 → 16 - i < fu → ∀ (H : Heap) (locs : List Loc) (ls : Array Slot), va_P D vwCl ([(h, .inr (0, kF r1 r2 (upd f 16 ((f 16) + 1)))), (r2, .inl (cI, 16, .inl (foB a tb i)))]) H → va_D A ([(h, .inr (0, kF r1 r2 (upd f 16 ((f 16) + 1)))), (r2, .inl (cI, 16, .inl (foB a tb i)))]) → va_S A s.heap H locs → lv_has ls 3 [(0, .ref h), (1, .int tb), (2, .int (nI i))] → W p l e (rmK 0) s m args below meth c H locs 0 0 Q (F0 m 12 ls []) := by
    intro fu
    induction fu with
    | zero => intro i h1 h2; exact absurd h2 (Nat.not_lt_zero _)
    | succ fu ih =>
      intro i hkn hfu  H locs ls hP hD hS hl
      refine lv_iload_n hx hb dX0_noteSet_12 rfl (lv_at hl 2 rfl) ?_
      refine lv_bipush (v := 16) hx hb dX0_noteSet_13 (by decide) ?_
      refine lv_icmp_ge (tgt := 42) hx hb dX0_noteSet_15 (by decide) (fun c_2 => ?_) (fun c_2 => ?_)
      · have ekn : 16 = i := Nat.le_antisymm (kx_ge (x := 16) (n := 16) rfl (by omega) (by omega) c_2) hkn
        subst ekn
        exact hret 42 _ _ _ hP hD hS dX0_noteSet_42
      · have hil : i < 16 := kx_lt (x := 16) (n := 16) rfl (by omega) (by omega) c_2
        refine lv_iload_n hx hb dX0_noteSet_18 rfl (lv_at hl 1 rfl) ?_
        refine lv_iload_n hx hb dX0_noteSet_19 rfl (lv_at hl 2 rfl) ?_
        refine lv_ishr hx hb dX0_noteSet_20 ?_
        refine lv_iconst (v := 1) hx hb dX0_noteSet_21 (by decide) ?_
        refine lv_iand hx hb dX0_noteSet_22 ?_
        refine lv_if_eq (tgt := 36) hx hb dX0_noteSet_23 (by decide) (fun c_3 => ?_) (fun c_3 => ?_)
        · refine lv_iinc (v := nI (i + 1)) (lv' := [(2, .int (nI (i + 1))), (0, .ref h), (1, .int tb)]) hx hb dX0_noteSet_36 hl (k := 2) rfl (nI_1 _) (by decide) rfl (fun ls hl => ?_)
          refine lv_goto (tgt := 12) hx hb dX0_noteSet_39 (by decide) ?_
          have q_4 : foB a tb (i + 1) = foB a tb i := by rw [foB_t c_3]
          exact ih (i + 1) (by omega) (by omega) H locs ls (by rw [q_4]; exact hP) (by rw [q_4]; exact hD) hS (by exact lv_sub hl [1, 2, 0] rfl)
        · refine lv_aload_n hx hb dX0_noteSet_26 rfl (lv_at hl 0 rfl) ?_
          refine va_get (D := D) (ci := 0) (v := .ref r2) (C := RX0) (T := TX0) (N := 18) hx hb hts hinX0 hown hK hP 0 rfl rfl 17 (by decide) (hts (.fieldLink RX0 44 "TroubleCodes$Check" "foretoldBy" "[I") (mem_at 2 rfl)) (fun _ h9 => h9) rfl dX0_noteSet_27 ?_
          refine lv_iload_n hx hb dX0_noteSet_30 rfl (lv_at hl 2 rfl) ?_
          refine lv_dup2_11 hx hb dX0_noteSet_31 rfl rfl ?_
          refine x_iald (k := i) (f := foB a tb i) hx hb hK hP 1 rfl (by omega) (by decide) dX0_noteSet_32 ?_
          rw [foB_k]
          refine lv_iconst (v := 1) hx hb dX0_noteSet_33 (by decide) ?_
          refine lv_iadd hx hb dX0_noteSet_34 ?_
          refine x_iast (k := i) (f := foB a tb i) (x := (a i) + 1) hx hb hK hP hD hS 1 rfl (by omega) (by decide) dX0_noteSet_35 (fun H locs hP hD hS => ?_)
          have hP : va_P D vwCl ([(h, .inr (0, kF r1 r2 (upd f 16 ((f 16) + 1)))), (r2, .inl (cI, 16, .inl (upd (foB a tb i) i ((a i) + 1))))]) H := hP
          have hD : va_D A ([(h, .inr (0, kF r1 r2 (upd f 16 ((f 16) + 1)))), (r2, .inl (cI, 16, .inl (upd (foB a tb i) i ((a i) + 1))))]) := hD
          refine lv_iinc (v := nI (i + 1)) (lv' := [(2, .int (nI (i + 1))), (0, .ref h), (1, .int tb)]) hx hb dX0_noteSet_36 hl (k := 2) rfl (nI_1 _) (by decide) rfl (fun ls hl => ?_)
          refine lv_goto (tgt := 12) hx hb dX0_noteSet_39 (by decide) ?_
          have q_5 : foB a tb (i + 1) = upd (foB a tb i) i ((a i) + 1) := by rw [foB_f c_3]
          exact ih (i + 1) (by omega) (by omega) H locs ls (by rw [q_5]; exact hP) (by rw [q_5]; exact hD) hS (by exact lv_sub hl [1, 2, 0] rfl)
  have q_6 : (nI 0 : Int32) = 0 := by rfl
  exact LOOP_1 (16 - 0 + 1) 0 (Nat.zero_le _) (Nat.lt_succ_self _) _ _ ls (by rw [foB_0]; exact hP) (by rw [foB_0]; exact hD) hS (by rw [q_6]; exact lv_sub hl [1, 2, 0] rfl)

set_option maxHeartbeats 4000000 in
set_option maxRecDepth 100000 in
theorem tX0_freeze (l : Launch) (D : va_G) (cI cZ cC : ClassId) (h r1 r2 : Nat) (f : Nat → Int32) (fa : Nat) (a fc : Nat → Int32) (dr od : Int32) : WrV l yX0_freeze wsX0_freeze (rmK 1) D cI cZ cC [.ref h, .ref fa, .int dr, .int od] ([(h, .inr (0, kF r1 r2 f)), (r1, .inl (cI, 4, .inl a)), (fa, .inl (cI, 4, .inl fc))]) ([(h, .inr (0, kF r1 r2 (upd (upd f 13 dr) 14 od))), (r1, .inl (cI, 4, .inl (va_cpy fc a 0 0 4))), (fa, .inl (cI, 4, .inl fc))]) := by
  refine WrV.of (cc := cX0_freeze) (maxL := 4) (by decide) rfl (Nat.le_of_ble_eq_true rfl) ?_
  intro p e s m args below meth c Q A ls hx hb hml hts hown hK hP hD hS hA hret hl
  have hl : lv_has ls 4 [(0, .ref h), (1, .ref fa), (2, .int dr), (3, .int od)] := hl
  have hinX0 : ∀ w ∈ u_ws RX0 TX0 18, w ∈ wsX0_freeze := (fun w h => List.mem_cons_of_mem _ (List.mem_append_right _ h))
  refine lv_aload_n hx hb dX0_freeze_0 rfl (lv_at hl 1 rfl) ?_
  refine lv_iconst (v := 0) hx hb dX0_freeze_1 (by decide) ?_
  refine lv_aload_n hx hb dX0_freeze_2 rfl (lv_at hl 0 rfl) ?_
  refine va_get (D := D) (ci := 0) (v := .ref r1) (C := RX0) (T := TX0) (N := 18) hx hb hts hinX0 hown hK hP 0 rfl rfl 15 (by decide) (hts (.fieldLink RX0 37 "TroubleCodes$Check" "frozenFacts" "[I") (mem_at 1 rfl)) (fun _ h9 => h9) rfl dX0_freeze_3 ?_
  refine lv_iconst (v := 0) hx hb dX0_freeze_6 (by decide) ?_
  refine lv_iconst (v := 4) hx hb dX0_freeze_7 (by decide) ?_
  refine va_copyi hx hb (by rw [hml]; exact hl.1.symm) hown (hts (.methodLink RX0 89 arraycopyName) (mem_at 2 rfl)) (hts (.native arraycopyName) (mem_at 3 rfl)) (hts (.static arraycopyName) (mem_at 4 rfl)) (hts (.initialized "java/lang/System") (mem_at 5 rfl)) hK hP hD hS 2 1 0 0 rfl rfl rfl rfl rfl (by decide) (by decide) (by decide) (by decide) (by decide) (fun _ _ => rfl) (Nat.le_of_ble_eq_true rfl) (by decide) dX0_freeze_8 (fun H locs hP hD hS => ?_)
  have hP : va_P D vwCl ([(h, .inr (0, kF r1 r2 f)), (r1, .inl (cI, 4, .inl (va_cpy fc a 0 0 4))), (fa, .inl (cI, 4, .inl fc))]) H := hP
  have hD : va_D A ([(h, .inr (0, kF r1 r2 f)), (r1, .inl (cI, 4, .inl (va_cpy fc a 0 0 4))), (fa, .inl (cI, 4, .inl fc))]) := hD
  refine lv_aload_n hx hb dX0_freeze_11 rfl (lv_at hl 0 rfl) ?_
  refine lv_iload_n hx hb dX0_freeze_12 rfl (lv_at hl 2 rfl) ?_
  refine va_put (D := D) (ci := 0) (v := .int dr) (ty := .int) (C := RX0) (T := TX0) (N := 18) hx hb hts hinX0 tyX0 tyX0_ok nmX0 hown hK hP hD hS 0 rfl rfl 13 (by decide) (hts (.fieldLink RX0 31 "TroubleCodes$Check" "frozenDrive" "I") (mem_at 6 rfl)) (fun _ h9 => h9) rfl (by decide +kernel) rfl rfl (Nat.le_of_ble_eq_true rfl) dX0_freeze_13 (fun H locs hP hD hS => ?_)
  have hP : va_P D vwCl ([(h, .inr (0, kF r1 r2 (upd f 13 dr))), (r1, .inl (cI, 4, .inl (va_cpy fc a 0 0 4))), (fa, .inl (cI, 4, .inl fc))]) H := hP
  have hD : va_D A ([(h, .inr (0, kF r1 r2 (upd f 13 dr))), (r1, .inl (cI, 4, .inl (va_cpy fc a 0 0 4))), (fa, .inl (cI, 4, .inl fc))]) := hD
  refine lv_aload_n hx hb dX0_freeze_16 rfl (lv_at hl 0 rfl) ?_
  refine lv_iload_n hx hb dX0_freeze_17 rfl (lv_at hl 3 rfl) ?_
  refine va_put (D := D) (ci := 0) (v := .int od) (ty := .int) (C := RX0) (T := TX0) (N := 18) hx hb hts hinX0 tyX0 tyX0_ok nmX0 hown hK hP hD hS 0 rfl rfl 14 (by decide) (hts (.fieldLink RX0 34 "TroubleCodes$Check" "frozenOrder" "I") (mem_at 7 rfl)) (fun _ h9 => h9) rfl (by decide +kernel) rfl rfl (Nat.le_of_ble_eq_true rfl) dX0_freeze_18 (fun H locs hP hD hS => ?_)
  have hP : va_P D vwCl ([(h, .inr (0, kF r1 r2 (upd (upd f 13 dr) 14 od))), (r1, .inl (cI, 4, .inl (va_cpy fc a 0 0 4))), (fa, .inl (cI, 4, .inl fc))]) H := hP
  have hD : va_D A ([(h, .inr (0, kF r1 r2 (upd (upd f 13 dr) 14 od))), (r1, .inl (cI, 4, .inl (va_cpy fc a 0 0 4))), (fa, .inl (cI, 4, .inl fc))]) := hD
  exact hret 21 _ _ _ hP hD hS dX0_freeze_21
