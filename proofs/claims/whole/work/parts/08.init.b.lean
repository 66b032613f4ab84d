def vZ : Nat → Nat → Int32 := fun k _ => match k with
  | 8 => -1
  | 11 => -1
  | _ => 0
def adh (h : Nat) (u : Nat → Nat) : Nat → Nat := fun k => match k with
  | 3 => h
  | k => u k
def gZ : Nat → Nat → Int32 := fun k _ => match k with
  | 20 => 8
  | _ => 0
def tZ : Nat → Nat → Int32 := fun k _ => match k with
  | 3 => 8
  | _ => 0
theorem zX1 : ∀ j, j < 13 → defaultValue (tyX1 j) = vp_V [.null, .null, .int 0, .null, .null, .int 0, .null, .null, .int 0, .int 0, .int 0, .int 0, .int 0] j := by
  intro j hj
  rcases (by omega : j = 0 ∨ j = 1 ∨ j = 2 ∨ j = 3 ∨ j = 4 ∨ j = 5 ∨ j = 6 ∨ j = 7 ∨ j = 8 ∨ j = 9 ∨ j = 10 ∨ j = 11 ∨ j = 12) with rfl | rfl | rfl | rfl | rfl | rfl | rfl | rfl | rfl | rfl | rfl | rfl | rfl <;> rfl
/-- a new check's fields -/
def kZ (x1 x2 x3 x4 x5 x6 x7 : Int32) : Nat → Int32 := fun k => match k with
  | 0 => x1
  | 1 => x2
  | 2 => x3
  | 3 => x4
  | 4 => if x1 = 1 then 2 * x5 else x5
  | 5 => x6
  | 6 => x7
  | 13 => -1
  | _ => 0

set_option maxHeartbeats 4000000 in
set_option maxRecDepth 100000 in
theorem tX0_init (l : Launch) (D : va_G) (cI cZ cC : ClassId) (h : Nat) (x1 x2 x3 x4 x5 x6 x7 : Int32) (h7 : x7 = 0 ∨ x7 = 1) : InV l yX0_init wsX0_init (rmA 1 2 20) D cI cZ cC (fun _ => True) [.ref h, .int x1, .int x2, .int x3, .int x4, .int x5, .int x6, .int x7] [(h, .inr (0, [.int 0, .int 0, .int 0, .int 0, .int 0, .int 0, .int 0, .int 0, .int 0, .int 0, .int 0, .int 0, .int 0, .int 0, .int 0, .null, .int 0, .null]))] (fun u => [(h, .inr (0, kF (u 0) (u 1) (kZ x1 x2 x3 x4 x5 x6 x7))), (u 0, .inl (cI, 4, .inl (fun _ => 0))), (u 1, .inl (cI, 16, .inl (fun _ => 0)))]) 2 20 := by
  refine InV.of (cc := cX0_init) (maxL := 8) (by decide) rfl (Nat.le_of_ble_eq_true rfl) ?_
  intro p e s m args below meth c Q A ls hx hb hml hts hown hin hK hE hP hD hS hA hret hl
  have hl : lv_has ls 8 [(0, .ref h), (1, .int x1), (2, .int x2), (3, .int x3), (4, .int x4), (5, .int x5), (6, .int x6), (7, .int x7)] := hl
  have hinX0 : ∀ w ∈ u_ws RX0 TX0 18, w ∈ wsX0_init := (fun w h => List.mem_cons_of_mem _ (List.mem_append_right _ h))
  refine lv_aload_n hx hb dX0_init_0 rfl (lv_at hl 0 rfl) ?_
  refine W.objInit hx hb hown (hts (.methodLink RX0 3 objectInit) (mem_at 1 rfl)) (hts (.instanceMethod objectInit) (mem_at 2 rfl)) (hts (.code objectInit ⟨#[0xb1]⟩ 1 none) (mem_at 3 rfl)) rfl (by rw [hml]; exact hl.1) rfl dX0_init_1 (Nat.le_of_ble_eq_true rfl) (Nat.le_of_ble_eq_true rfl) ?_
  refine W.eq (g2 := F0 m 4 ls []) rfl ?_
  refine lv_aload_n hx hb dX0_init_4 rfl (lv_at hl 0 rfl) ?_
  refine lv_iconst (v := 0) hx hb dX0_init_5 (by decide) ?_
  refine va_put (D := D) (ci := 0) (v := .int 0) (ty := .int) (C := RX0) (T := TX0) (N := 18) hx hb hts hinX0 tyX0 tyX0_ok nmX0 hown hK hP hD hS 0 rfl rfl 7 (by decide) (hts (.fieldLink RX0 11 "TroubleCodes$Check" "code" "I") (mem_at 4 rfl)) (fun _ h9 => h9) rfl (by decide +kernel) rfl rfl (Nat.le_of_ble_eq_true rfl) dX0_init_6 (fun H locs hP hD hS => ?_)
  have hP : va_P D vwCl ([(h, .inr (0, [.int 0, .int 0, .int 0, .int 0, .int 0, .int 0, .int 0, .int 0, .int 0, .int 0, .int 0, .int 0, .int 0, .int 0, .int 0, .null, .int 0, .null]))]) H := hP
  have hD : va_D A ([(h, .inr (0, [.int 0, .int 0, .int 0, .int 0, .int 0, .int 0, .int 0, .int 0, .int 0, .int 0, .int 0, .int 0, .int 0, .int 0, .int 0, .null, .int 0, .null]))]) := hD
  refine lv_aload_n hx hb dX0_init_9 rfl (lv_at hl 0 rfl) ?_
  refine lv_iconst (v := 0) hx hb dX0_init_10 (by decide) ?_
  refine va_put (D := D) (ci := 0) (v := .int 0) (ty := .int) (C := RX0) (T := TX0) (N := 18) hx hb hts hinX0 tyX0 tyX0_ok nmX0 hown hK hP hD hS 0 rfl rfl 8 (by decide) (hts (.fieldLink RX0 15 "TroubleCodes$Check" "badCount" "I") (mem_at 5 rfl)) (fun _ h9 => h9) rfl (by decide +kernel) rfl rfl (Nat.le_of_ble_eq_true rfl) dX0_init_11 (fun H locs hP hD hS => ?_)
  have hP : va_P D vwCl ([(h, .inr (0, [.int 0, .int 0, .int 0, .int 0, .int 0, .int 0, .int 0, .int 0, .int 0, .int 0, .int 0, .int 0, .int 0, .int 0, .int 0, .null, .int 0, .null]))]) H := hP
  have hD : va_D A ([(h, .inr (0, [.int 0, .int 0, .int 0, .int 0, .int 0, .int 0, .int 0, .int 0, .int 0, .int 0, .int 0, .int 0, .int 0, .int 0, .int 0, .null, .int 0, .null]))]) := hD
  refine lv_aload_n hx hb dX0_init_14 rfl (lv_at hl 0 rfl) ?_
  refine lv_iconst (v := 0) hx hb dX0_init_15 (by decide) ?_
  refine va_put (D := D) (ci := 0) (v := .int 0) (ty := .int) (C := RX0) (T := TX0) (N := 18) hx hb hts hinX0 tyX0 tyX0_ok nmX0 hown hK hP hD hS 0 rfl rfl 9 (by decide) (hts (.fieldLink RX0 18 "TroubleCodes$Check" "goodCount" "I") (mem_at 6 rfl)) (fun _ h9 => h9) rfl (by decide +kernel) rfl rfl (Nat.le_of_ble_eq_true rfl) dX0_init_16 (fun H locs hP hD hS => ?_)
  have hP : va_P D vwCl ([(h, .inr (0, [.int 0, .int 0, .int 0, .int 0, .int 0, .int 0, .int 0, .int 0, .int 0, .int 0, .int 0, .int 0, .int 0, .int 0, .int 0, .null, .int 0, .null]))]) H := hP
  have hD : va_D A ([(h, .inr (0, [.int 0, .int 0, .int 0, .int 0, .int 0, .int 0, .int 0, .int 0, .int 0, .int 0, .int 0, .int 0, .int 0, .int 0, .int 0, .null, .int 0, .null]))]) := hD
  refine lv_aload_n hx hb dX0_init_19 rfl (lv_at hl 0 rfl) ?_
  refine lv_iconst (v := 0) hx hb dX0_init_20 (by decide) ?_
  refine va_put (D := D) (ci := 0) (v := .int 0) (ty := .int) (C := RX0) (T := TX0) (N := 18) hx hb hts hinX0 tyX0 tyX0_ok nmX0 hown hK hP hD hS 0 rfl rfl 10 (by decide) (hts (.fieldLink RX0 21 "TroubleCodes$Check" "age" "I") (mem_at 7 rfl)) (fun _ h9 => h9) rfl (by decide +kernel) rfl rfl (Nat.le_of_ble_eq_true rfl) dX0_init_21 (fun H locs hP hD hS => ?_)
  have hP : va_P D vwCl ([(h, .inr (0, [.int 0, .int 0, .int 0, .int 0, .int 0, .int 0, .int 0, .int 0, .int 0, .int 0, .int 0, .int 0, .int 0, .int 0, .int 0, .null, .int 0, .null]))]) H := hP
  have hD : va_D A ([(h, .inr (0, [.int 0, .int 0, .int 0, .int 0, .int 0, .int 0, .int 0, .int 0, .int 0, .int 0, .int 0, .int 0, .int 0, .int 0, .int 0, .null, .int 0, .null]))]) := hD
  refine lv_aload_n hx hb dX0_init_24 rfl (lv_at hl 0 rfl) ?_
  refine lv_iconst (v := 0) hx hb dX0_init_25 (by decide) ?_
  refine va_put (D := D) (ci := 0) (v := .int 0) (ty := .int) (C := RX0) (T := TX0) (N := 18) hx hb hts hinX0 tyX0 tyX0_ok nmX0 hown hK hP hD hS 0 rfl rfl 11 (by decide) (hts (.fieldLink RX0 24 "TroubleCodes$Check" "told" "I") (mem_at 8 rfl)) (fun _ h9 => h9) rfl (by decide +kernel) rfl rfl (Nat.le_of_ble_eq_true rfl) dX0_init_26 (fun H locs hP hD hS => ?_)
  have hP : va_P D vwCl ([(h, .inr (0, [.int 0, .int 0, .int 0, .int 0, .int 0, .int 0, .int 0, .int 0, .int 0, .int 0, .int 0, .int 0, .int 0, .int 0, .int 0, .null, .int 0, .null]))]) H := hP
  have hD : va_D A ([(h, .inr (0, [.int 0, .int 0, .int 0, .int 0, .int 0, .int 0, .int 0, .int 0, .int 0, .int 0, .int 0, .int 0, .int 0, .int 0, .int 0, .null, .int 0, .null]))]) := hD
  refine lv_aload_n hx hb dX0_init_29 rfl (lv_at hl 0 rfl) ?_
  refine lv_iconst (v := 0) hx hb dX0_init_30 (by decide) ?_
  refine va_put (D := D) (ci := 0) (v := .int 0) (ty := .boolean) (C := RX0) (T := TX0) (N := 18) hx hb hts hinX0 tyX0 tyX0_ok nmX0 hown hK hP hD hS 0 rfl rfl 12 (by decide) (hts (.fieldLink RX0 27 "TroubleCodes$Check" "ranSinceCleared" "Z") (mem_at 9 rfl)) (fun _ h9 => h9) rfl (by decide +kernel) rfl rfl (Nat.le_of_ble_eq_true rfl) dX0_init_31 (fun H locs hP hD hS => ?_)
  have hP : va_P D vwCl ([(h, .inr (0, [.int 0, .int 0, .int 0, .int 0, .int 0, .int 0, .int 0, .int 0, .int 0, .int 0, .int 0, .int 0, .int 0, .int 0, .int 0, .null, .int 0, .null]))]) H := hP
  have hD : va_D A ([(h, .inr (0, [.int 0, .int 0, .int 0, .int 0, .int 0, .int 0, .int 0, .int 0, .int 0, .int 0, .int 0, .int 0, .int 0, .int 0, .int 0, .null, .int 0, .null]))]) := hD
  refine lv_aload_n hx hb dX0_init_34 rfl (lv_at hl 0 rfl) ?_
  refine lv_iconst (v := (-1)) hx hb dX0_init_35 (by decide) ?_
  refine va_put (D := D) (ci := 0) (v := .int (-1)) (ty := .int) (C := RX0) (T := TX0) (N := 18) hx hb hts hinX0 tyX0 tyX0_ok nmX0 hown hK hP hD hS 0 rfl rfl 13 (by decide) (hts (.fieldLink RX0 31 "TroubleCodes$Check" "frozenDrive" "I") (mem_at 10 rfl)) (fun _ h9 => h9) rfl (by decide +kernel) rfl rfl (Nat.le_of_ble_eq_true rfl) dX0_init_36 (fun H locs hP hD hS => ?_)
  have hP : va_P D vwCl ([(h, .inr (0, [.int 0, .int 0, .int 0, .int 0, .int 0, .int 0, .int 0, .int 0, .int 0, .int 0, .int 0, .int 0, .int 0, .int (-1), .int 0, .null, .int 0, .null]))]) H := hP
  have hD : va_D A ([(h, .inr (0, [.int 0, .int 0, .int 0, .int 0, .int 0, .int 0, .int 0, .int 0, .int 0, .int 0, .int 0, .int 0, .int 0, .int (-1), .int 0, .null, .int 0, .null]))]) := hD
  refine lv_aload_n hx hb dX0_init_39 rfl (lv_at hl 0 rfl) ?_
  refine lv_iconst (v := 0) hx hb dX0_init_40 (by decide) ?_
  refine va_put (D := D) (ci := 0) (v := .int 0) (ty := .int) (C := RX0) (T := TX0) (N := 18) hx hb hts hinX0 tyX0 tyX0_ok nmX0 hown hK hP hD hS 0 rfl rfl 14 (by decide) (hts (.fieldLink RX0 34 "TroubleCodes$Check" "frozenOrder" "I") (mem_at 11 rfl)) (fun _ h9 => h9) rfl (by decide +kernel) rfl rfl (Nat.le_of_ble_eq_true rfl) dX0_init_41 (fun H locs hP hD hS => ?_)
  have hP : va_P D vwCl ([(h, .inr (0, [.int 0, .int 0, .int 0, .int 0, .int 0, .int 0, .int 0, .int 0, .int 0, .int 0, .int 0, .int 0, .int 0, .int (-1), .int 0, .null, .int 0, .null]))]) H := hP
  have hD : va_D A ([(h, .inr (0, [.int 0, .int 0, .int 0, .int 0, .int 0, .int 0, .int 0, .int 0, .int 0, .int 0, .int 0, .int 0, .int 0, .int (-1), .int 0, .null, .int 0, .null]))]) := hD
  refine lv_aload_n hx hb dX0_init_44 rfl (lv_at hl 0 rfl) ?_
  refine lv_iconst (v := 4) hx hb dX0_init_45 (by decide) ?_
  refine x_newi hx hb (hts (.arrayClass .int) (mem_at 12 rfl)) hK hP hD hS hA 4 (by decide) (by decide) (Nat.le_of_ble_eq_true rfl) (Nat.le_of_ble_eq_true rfl) (Nat.le_of_ble_eq_true rfl) dX0_init_46 (fun q_1 H hP hD hS => ?_)
  refine W.widen (k := 1) (n := 4) (Nat.le_of_ble_eq_true rfl) (Nat.le_of_ble_eq_true rfl) ?_
  have hP : va_P D vwCl ([(h, .inr (0, [.int 0, .int 0, .int 0, .int 0, .int 0, .int 0, .int 0, .int 0, .int 0, .int 0, .int 0, .int 0, .int 0, .int (-1), .int 0, .null, .int 0, .null])), (q_1, .inl (cI, 4, .inl (fun _ => 0)))]) H := hP
  have hD : va_D A ([(h, .inr (0, [.int 0, .int 0, .int 0, .int 0, .int 0, .int 0, .int 0, .int 0, .int 0, .int 0, .int 0, .int 0, .int 0, .int (-1), .int 0, .null, .int 0, .null])), (q_1, .inl (cI, 4, .inl (fun _ => 0)))]) := hD
  refine va_putF (D := D) (ci := 0) (v := .ref q_1) (ty := (.array .int)) (C := RX0) (T := TX0) (N := 18) hx hb hts hinX0 tyX0 tyX0_ok nmX0 hown hK hP hD hS 0 rfl rfl 15 (by decide) (hts (.fieldLink RX0 37 "TroubleCodes$Check" "frozenFacts" "[I") (mem_at 13 rfl)) (fun _ h9 => h9) rfl hin rfl (by decide +kernel) rfl rfl (Nat.le_of_ble_eq_true rfl) dX0_init_48 (fun H locs hP hD hS => ?_)
  have hP : va_P D vwCl ([(h, .inr (0, [.int 0, .int 0, .int 0, .int 0, .int 0, .int 0, .int 0, .int 0, .int 0, .int 0, .int 0, .int 0, .int 0, .int (-1), .int 0, .ref q_1, .int 0, .null])), (q_1, .inl (cI, 4, .inl (fun _ => 0)))]) H := hP
  have hD : va_D A ([(h, .inr (0, [.int 0, .int 0, .int 0, .int 0, .int 0, .int 0, .int 0, .int 0, .int 0, .int 0, .int 0, .int 0, .int 0, .int (-1), .int 0, .ref q_1, .int 0, .null])), (q_1, .inl (cI, 4, .inl (fun _ => 0)))]) := hD
  refine lv_aload_n hx hb dX0_init_51 rfl (lv_at hl 0 rfl) ?_
  refine lv_iconst (v := 0) hx hb dX0_init_52 (by decide) ?_
  refine va_put (D := D) (ci := 0) (v := .int 0) (ty := .int) (C := RX0) (T := TX0) (N := 18) hx hb hts hinX0 tyX0 tyX0_ok nmX0 hown hK hP hD hS 0 rfl rfl 16 (by decide) (hts (.fieldLink RX0 41 "TroubleCodes$Check" "setDrives" "I") (mem_at 14 rfl)) (fun _ h9 => h9) rfl (by decide +kernel) rfl rfl (Nat.le_of_ble_eq_true rfl) dX0_init_53 (fun H locs hP hD hS => ?_)
  have hP : va_P D vwCl ([(h, .inr (0, [.int 0, .int 0, .int 0, .int 0, .int 0, .int 0, .int 0, .int 0, .int 0, .int 0, .int 0, .int 0, .int 0, .int (-1), .int 0, .ref q_1, .int 0, .null])), (q_1, .inl (cI, 4, .inl (fun _ => 0)))]) H := hP
  have hD : va_D A ([(h, .inr (0, [.int 0, .int 0, .int 0, .int 0, .int 0, .int 0, .int 0, .int 0, .int 0, .int 0, .int 0, .int 0, .int 0, .int (-1), .int 0, .ref q_1, .int 0, .null])), (q_1, .inl (cI, 4, .inl (fun _ => 0)))]) := hD
  refine lv_aload_n hx hb dX0_init_56 rfl (lv_at hl 0 rfl) ?_
  refine lv_bipush (v := 16) hx hb dX0_init_57 (by decide) ?_
  refine x_newi hx hb (hts (.arrayClass .int) (mem_at 12 rfl)) hK hP hD hS hA 16 (by decide) (by decide) (Nat.le_of_ble_eq_true rfl) (Nat.le_of_ble_eq_true rfl) (Nat.le_of_ble_eq_true rfl) dX0_init_59 (fun q_2 H hP hD hS => ?_)
  refine W.widen (k := 2) (n := 20) (Nat.le_of_ble_eq_true rfl) (Nat.le_of_ble_eq_true rfl) ?_
  have hP : va_P D vwCl ([(h, .inr (0, [.int 0, .int 0, .int 0, .int 0, .int 0, .int 0, .int 0, .int 0, .int 0, .int 0, .int 0, .int 0, .int 0, .int (-1), .int 0, .ref q_1, .int 0, .null])), (q_1, .inl (cI, 4, .inl (fun _ => 0))), (q_2, .inl (cI, 16, .inl (fun _ => 0)))]) H := hP
  have hD : va_D A ([(h, .inr (0, [.int 0, .int 0, .int 0, .int 0, .int 0, .int 0, .int 0, .int 0, .int 0, .int 0, .int 0, .int 0, .int 0, .int (-1), .int 0, .ref q_1, .int 0, .null])), (q_1, .inl (cI, 4, .inl (fun _ => 0))), (q_2, .inl (cI, 16, .inl (fun _ => 0)))]) := hD
  refine va_putF (D := D) (ci := 0) (v := .ref q_2) (ty := (.array .int)) (C := RX0) (T := TX0) (N := 18) hx hb hts hinX0 tyX0 tyX0_ok nmX0 hown hK hP hD hS 0 rfl rfl 17 (by decide) (hts (.fieldLink RX0 44 "TroubleCodes$Check" "foretoldBy" "[I") (mem_at 15 rfl)) (fun _ h9 => h9) rfl hin rfl (by decide +kernel) rfl rfl (Nat.le_of_ble_eq_true rfl) dX0_init_61 (fun H locs hP hD hS => ?_)
  have hP : va_P D vwCl ([(h, .inr (0, [.int 0, .int 0, .int 0, .int 0, .int 0, .int 0, .int 0, .int 0, .int 0, .int 0, .int 0, .int 0, .int 0, .int (-1), .int 0, .ref q_1, .int 0, .ref q_2])), (q_1, .inl (cI, 4, .inl (fun _ => 0))), (q_2, .inl (cI, 16, .inl (fun _ => 0)))]) H := hP
  have hD : va_D A ([(h, .inr (0, [.int 0, .int 0, .int 0, .int 0, .int 0, .int 0, .int 0, .int 0, .int 0, .int 0, .int 0, .int 0, .int 0, .int (-1), .int 0, .ref q_1, .int 0, .ref q_2])), (q_1, .inl (cI, 4, .inl (fun _ => 0))), (q_2, .inl (cI, 16, .inl (fun _ => 0)))]) := hD
  refine lv_aload_n hx hb dX0_init_64 rfl (lv_at hl 0 rfl) ?_
  refine lv_iload_n hx hb dX0_init_65 rfl (lv_at hl 1 rfl) ?_
  refine va_putF (D := D) (ci := 0) (v := .int x1) (ty := .int) (C := RX0) (T := TX0) (N := 18) hx hb hts hinX0 tyX0 tyX0_ok nmX0 hown hK hP hD hS 0 rfl rfl 0 (by decide) (hts (.fieldLink RX0 47 "TroubleCodes$Check" "sort" "I") (mem_at 16 rfl)) (fun _ h9 => h9) rfl hin rfl (by decide +kernel) rfl rfl (Nat.le_of_ble_eq_true rfl) dX0_init_66 (fun H locs hP hD hS => ?_)
  have hP : va_P D vwCl ([(h, .inr (0, [.int x1, .int 0, .int 0, .int 0, .int 0, .int 0, .int 0, .int 0, .int 0, .int 0, .int 0, .int 0, .int 0, .int (-1), .int 0, .ref q_1, .int 0, .ref q_2])), (q_1, .inl (cI, 4, .inl (fun _ => 0))), (q_2, .inl (cI, 16, .inl (fun _ => 0)))]) H := hP
  have hD : va_D A ([(h, .inr (0, [.int x1, .int 0, .int 0, .int 0, .int 0, .int 0, .int 0, .int 0, .int 0, .int 0, .int 0, .int 0, .int 0, .int (-1), .int 0, .ref q_1, .int 0, .ref q_2])), (q_1, .inl (cI, 4, .inl (fun _ => 0))), (q_2, .inl (cI, 16, .inl (fun _ => 0)))]) := hD
  refine lv_aload_n hx hb dX0_init_69 rfl (lv_at hl 0 rfl) ?_
  refine lv_iload_n hx hb dX0_init_70 rfl (lv_at hl 2 rfl) ?_
  refine va_putF (D := D) (ci := 0) (v := .int x2) (ty := .int) (C := RX0) (T := TX0) (N := 18) hx hb hts hinX0 tyX0 tyX0_ok nmX0 hown hK hP hD hS 0 rfl rfl 1 (by decide) (hts (.fieldLink RX0 50 "TroubleCodes$Check" "follows" "I") (mem_at 17 rfl)) (fun _ h9 => h9) rfl hin rfl (by decide +kernel) rfl rfl (Nat.le_of_ble_eq_true rfl) dX0_init_71 (fun H locs hP hD hS => ?_)
  have hP : va_P D vwCl ([(h, .inr (0, [.int x1, .int x2, .int 0, .int 0, .int 0, .int 0, .int 0, .int 0, .int 0, .int 0, .int 0, .int 0, .int 0, .int (-1), .int 0, .ref q_1, .int 0, .ref q_2])), (q_1, .inl (cI, 4, .inl (fun _ => 0))), (q_2, .inl (cI, 16, .inl (fun _ => 0)))]) H := hP
  have hD : va_D A ([(h, .inr (0, [.int x1, .int x2, .int 0, .int 0, .int 0, .int 0, .int 0, .int 0, .int 0, .int 0, .int 0, .int 0, .int 0, .int (-1), .int 0, .ref q_1, .int 0, .ref q_2])), (q_1, .inl (cI, 4, .inl (fun _ => 0))), (q_2, .inl (cI, 16, .inl (fun _ => 0)))]) := hD
  refine lv_aload_n hx hb dX0_init_74 rfl (lv_at hl 0 rfl) ?_
  refine lv_iload_n hx hb dX0_init_75 rfl (lv_at hl 3 rfl) ?_
  refine va_putF (D := D) (ci := 0) (v := .int x3) (ty := .int) (C := RX0) (T := TX0) (N := 18) hx hb hts hinX0 tyX0 tyX0_ok nmX0 hown hK hP hD hS 0 rfl rfl 2 (by decide) (hts (.fieldLink RX0 53 "TroubleCodes$Check" "badLimit" "I") (mem_at 18 rfl)) (fun _ h9 => h9) rfl hin rfl (by decide +kernel) rfl rfl (Nat.le_of_ble_eq_true rfl) dX0_init_76 (fun H locs hP hD hS => ?_)
  have hP : va_P D vwCl ([(h, .inr (0, [.int x1, .int x2, .int x3, .int 0, .int 0, .int 0, .int 0, .int 0, .int 0, .int 0, .int 0, .int 0, .int 0, .int (-1), .int 0, .ref q_1, .int 0, .ref q_2])), (q_1, .inl (cI, 4, .inl (fun _ => 0))), (q_2, .inl (cI, 16, .inl (fun _ => 0)))]) H := hP
  have hD : va_D A ([(h, .inr (0, [.int x1, .int x2, .int x3, .int 0, .int 0, .int 0, .int 0, .int 0, .int 0, .int 0, .int 0, .int 0, .int 0, .int (-1), .int 0, .ref q_1, .int 0, .ref q_2])), (q_1, .inl (cI, 4, .inl (fun _ => 0))), (q_2, .inl (cI, 16, .inl (fun _ => 0)))]) := hD
  refine lv_aload_n hx hb dX0_init_79 rfl (lv_at hl 0 rfl) ?_
  refine lv_iload hx hb dX0_init_80 (lv_at hl 4 rfl) ?_
  refine va_putF (D := D) (ci := 0) (v := .int x4) (ty := .int) (C := RX0) (T := TX0) (N := 18) hx hb hts hinX0 tyX0 tyX0_ok nmX0 hown hK hP hD hS 0 rfl rfl 3 (by decide) (hts (.fieldLink RX0 56 "TroubleCodes$Check" "goodLimit" "I") (mem_at 19 rfl)) (fun _ h9 => h9) rfl hin rfl (by decide +kernel) rfl rfl (Nat.le_of_ble_eq_true rfl) dX0_init_82 (fun H locs hP hD hS => ?_)
  have hP : va_P D vwCl ([(h, .inr (0, [.int x1, .int x2, .int x3, .int x4, .int 0, .int 0, .int 0, .int 0, .int 0, .int 0, .int 0, .int 0, .int 0, .int (-1), .int 0, .ref q_1, .int 0, .ref q_2])), (q_1, .inl (cI, 4, .inl (fun _ => 0))), (q_2, .inl (cI, 16, .inl (fun _ => 0)))]) H := hP
  have hD : va_D A ([(h, .inr (0, [.int x1, .int x2, .int x3, .int x4, .int 0, .int 0, .int 0, .int 0, .int 0, .int 0, .int 0, .int 0, .int 0, .int (-1), .int 0, .ref q_1, .int 0, .ref q_2])), (q_1, .inl (cI, 4, .inl (fun _ => 0))), (q_2, .inl (cI, 16, .inl (fun _ => 0)))]) := hD
  refine lv_aload_n hx hb dX0_init_85 rfl (lv_at hl 0 rfl) ?_
  refine lv_iload_n hx hb dX0_init_86 rfl (lv_at hl 1 rfl) ?_
  refine lv_iconst (v := 1) hx hb dX0_init_87 (by decide) ?_
  refine lv_icmp_ne (tgt := 98) hx hb dX0_init_88 (by decide) (fun c_3 => ?_) (fun c_3 => ?_)
  · refine lv_iload hx hb dX0_init_98 (lv_at hl 5 rfl) ?_
    refine va_putF (D := D) (ci := 0) (v := .int x5) (ty := .int) (C := RX0) (T := TX0) (N := 18) hx hb hts hinX0 tyX0 tyX0_ok nmX0 hown hK hP hD hS 0 rfl rfl 4 (by decide) (hts (.fieldLink RX0 59 "TroubleCodes$Check" "ageLimit" "I") (mem_at 20 rfl)) (fun _ h9 => h9) rfl hin rfl (by decide +kernel) rfl rfl (Nat.le_of_ble_eq_true rfl) dX0_init_100 (fun H locs hP hD hS => ?_)
    have hP : va_P D vwCl ([(h, .inr (0, [.int x1, .int x2, .int x3, .int x4, .int x5, .int 0, .int 0, .int 0, .int 0, .int 0, .int 0, .int 0, .int 0, .int (-1), .int 0, .ref q_1, .int 0, .ref q_2])), (q_1, .inl (cI, 4, .inl (fun _ => 0))), (q_2, .inl (cI, 16, .inl (fun _ => 0)))]) H := hP
    have hD : va_D A ([(h, .inr (0, [.int x1, .int x2, .int x3, .int x4, .int x5, .int 0, .int 0, .int 0, .int 0, .int 0, .int 0, .int 0, .int 0, .int (-1), .int 0, .ref q_1, .int 0, .ref q_2])), (q_1, .inl (cI, 4, .inl (fun _ => 0))), (q_2, .inl (cI, 16, .inl (fun _ => 0)))]) := hD
    refine lv_aload_n hx hb dX0_init_103 rfl (lv_at hl 0 rfl) ?_
    refine lv_iload hx hb dX0_init_104 (lv_at hl 6 rfl) ?_
    refine va_putF (D := D) (ci := 0) (v := .int x6) (ty := .int) (C := RX0) (T := TX0) (N := 18) hx hb hts hinX0 tyX0 tyX0_ok nmX0 hown hK hP hD hS 0 rfl rfl 5 (by decide) (hts (.fieldLink RX0 62 "TroubleCodes$Check" "weight" "I") (mem_at 21 rfl)) (fun _ h9 => h9) rfl hin rfl (by decide +kernel) rfl rfl (Nat.le_of_ble_eq_true rfl) dX0_init_106 (fun H locs hP hD hS => ?_)
    have hP : va_P D vwCl ([(h, .inr (0, [.int x1, .int x2, .int x3, .int x4, .int x5, .int x6, .int 0, .int 0, .int 0, .int 0, .int 0, .int 0, .int 0, .int (-1), .int 0, .ref q_1, .int 0, .ref q_2])), (q_1, .inl (cI, 4, .inl (fun _ => 0))), (q_2, .inl (cI, 16, .inl (fun _ => 0)))]) H := hP
    have hD : va_D A ([(h, .inr (0, [.int x1, .int x2, .int x3, .int x4, .int x5, .int x6, .int 0, .int 0, .int 0, .int 0, .int 0, .int 0, .int 0, .int (-1), .int 0, .ref q_1, .int 0, .ref q_2])), (q_1, .inl (cI, 4, .inl (fun _ => 0))), (q_2, .inl (cI, 16, .inl (fun _ => 0)))]) := hD
    refine lv_aload_n hx hb dX0_init_109 rfl (lv_at hl 0 rfl) ?_
    refine lv_iload hx hb dX0_init_110 (lv_at hl 7 rfl) ?_
    refine va_putF (D := D) (ci := 0) (v := .int x7) (ty := .boolean) (C := RX0) (T := TX0) (N := 18) hx hb hts hinX0 tyX0 tyX0_ok nmX0 hown hK hP hD hS 0 rfl rfl 6 (by decide) (hts (.fieldLink RX0 65 "TroubleCodes$Check" "lamp" "Z") (mem_at 22 rfl)) (fun _ h9 => h9) rfl hin rfl (by decide +kernel) (nar1 h7) (fit1 h7) (Nat.le_of_ble_eq_true rfl) dX0_init_112 (fun H locs hP hD hS => ?_)
    have hP : va_P D vwCl ([(h, .inr (0, [.int x1, .int x2, .int x3, .int x4, .int x5, .int x6, .int x7, .int 0, .int 0, .int 0, .int 0, .int 0, .int 0, .int (-1), .int 0, .ref q_1, .int 0, .ref q_2])), (q_1, .inl (cI, 4, .inl (fun _ => 0))), (q_2, .inl (cI, 16, .inl (fun _ => 0)))]) H := hP
    have hD : va_D A ([(h, .inr (0, [.int x1, .int x2, .int x3, .int x4, .int x5, .int x6, .int x7, .int 0, .int 0, .int 0, .int 0, .int 0, .int 0, .int (-1), .int 0, .ref q_1, .int 0, .ref q_2])), (q_1, .inl (cI, 4, .inl (fun _ => 0))), (q_2, .inl (cI, 16, .inl (fun _ => 0)))]) := hD
    have e4 : kZ x1 x2 x3 x4 x5 x6 x7 4 = x5 := if_neg c_3
    have hP : va_P D vwCl ([(h, .inr (0, [.int x1, .int x2, .int x3, .int x4, .int (kZ x1 x2 x3 x4 x5 x6 x7 4), .int x6, .int x7, .int 0, .int 0, .int 0, .int 0, .int 0, .int 0, .int (-1), .int 0, .ref q_1, .int 0, .ref q_2])), (q_1, .inl (cI, 4, .inl (fun _ => 0))), (q_2, .inl (cI, 16, .inl (fun _ => 0)))]) H := by rw [e4]; exact hP
    have hD : va_D A ([(h, .inr (0, [.int x1, .int x2, .int x3, .int x4, .int (kZ x1 x2 x3 x4 x5 x6 x7 4), .int x6, .int x7, .int 0, .int 0, .int 0, .int 0, .int 0, .int 0, .int (-1), .int 0, .ref q_1, .int 0, .ref q_2])), (q_1, .inl (cI, 4, .inl (fun _ => 0))), (q_2, .inl (cI, 16, .inl (fun _ => 0)))]) := by rw [e4]; exact hD
    exact hret 115 _ H locs (fun k => match k with | 0 => q_1 | 1 => q_2 | _ => 0) hP hD hS dX0_init_115
  · refine lv_iconst (v := 2) hx hb dX0_init_91 (by decide) ?_
    refine lv_iload hx hb dX0_init_92 (lv_at hl 5 rfl) ?_
    refine lv_imul hx hb dX0_init_94 ?_
    refine lv_goto (tgt := 100) hx hb dX0_init_95 (by decide) ?_
    refine va_putF (D := D) (ci := 0) (v := .int (2 * x5)) (ty := .int) (C := RX0) (T := TX0) (N := 18) hx hb hts hinX0 tyX0 tyX0_ok nmX0 hown hK hP hD hS 0 rfl rfl 4 (by decide) (hts (.fieldLink RX0 59 "TroubleCodes$Check" "ageLimit" "I") (mem_at 20 rfl)) (fun _ h9 => h9) rfl hin rfl (by decide +kernel) rfl rfl (Nat.le_of_ble_eq_true rfl) dX0_init_100 (fun H locs hP hD hS => ?_)
    have hP : va_P D vwCl ([(h, .inr (0, [.int x1, .int x2, .int x3, .int x4, .int (2 * x5), .int 0, .int 0, .int 0, .int 0, .int 0, .int 0, .int 0, .int 0, .int (-1), .int 0, .ref q_1, .int 0, .ref q_2])), (q_1, .inl (cI, 4, .inl (fun _ => 0))), (q_2, .inl (cI, 16, .inl (fun _ => 0)))]) H := hP
    have hD : va_D A ([(h, .inr (0, [.int x1, .int x2, .int x3, .int x4, .int (2 * x5), .int 0, .int 0, .int 0, .int 0, .int 0, .int 0, .int 0, .int 0, .int (-1), .int 0, .ref q_1, .int 0, .ref q_2])), (q_1, .inl (cI, 4, .inl (fun _ => 0))), (q_2, .inl (cI, 16, .inl (fun _ => 0)))]) := hD
    refine lv_aload_n hx hb dX0_init_103 rfl (lv_at hl 0 rfl) ?_
    refine lv_iload hx hb dX0_init_104 (lv_at hl 6 rfl) ?_
    refine va_putF (D := D) (ci := 0) (v := .int x6) (ty := .int) (C := RX0) (T := TX0) (N := 18) hx hb hts hinX0 tyX0 tyX0_ok nmX0 hown hK hP hD hS 0 rfl rfl 5 (by decide) (hts (.fieldLink RX0 62 "TroubleCodes$Check" "weight" "I") (mem_at 21 rfl)) (fun _ h9 => h9) rfl hin rfl (by decide +kernel) rfl rfl (Nat.le_of_ble_eq_true rfl) dX0_init_106 (fun H locs hP hD hS => ?_)
    have hP : va_P D vwCl ([(h, .inr (0, [.int x1, .int x2, .int x3, .int x4, .int (2 * x5), .int x6, .int 0, .int 0, .int 0, .int 0, .int 0, .int 0, .int 0, .int (-1), .int 0, .ref q_1, .int 0, .ref q_2])), (q_1, .inl (cI, 4, .inl (fun _ => 0))), (q_2, .inl (cI, 16, .inl (fun _ => 0)))]) H := hP
    have hD : va_D A ([(h, .inr (0, [.int x1, .int x2, .int x3, .int x4, .int (2 * x5), .int x6, .int 0, .int 0, .int 0, .int 0, .int 0, .int 0, .int 0, .int (-1), .int 0, .ref q_1, .int 0, .ref q_2])), (q_1, .inl (cI, 4, .inl (fun _ => 0))), (q_2, .inl (cI, 16, .inl (fun _ => 0)))]) := hD
    refine lv_aload_n hx hb dX0_init_109 rfl (lv_at hl 0 rfl) ?_
    refine lv_iload hx hb dX0_init_110 (lv_at hl 7 rfl) ?_
    refine va_putF (D := D) (ci := 0) (v := .int x7) (ty := .boolean) (C := RX0) (T := TX0) (N := 18) hx hb hts hinX0 tyX0 tyX0_ok nmX0 hown hK hP hD hS 0 rfl rfl 6 (by decide) (hts (.fieldLink RX0 65 "TroubleCodes$Check" "lamp" "Z") (mem_at 22 rfl)) (fun _ h9 => h9) rfl hin rfl (by decide +kernel) (nar1 h7) (fit1 h7) (Nat.le_of_ble_eq_true rfl) dX0_init_112 (fun H locs hP hD hS => ?_)
    have hP : va_P D vwCl ([(h, .inr (0, [.int x1, .int x2, .int x3, .int x4, .int (2 * x5), .int x6, .int x7, .int 0, .int 0, .int 0, .int 0, .int 0, .int 0, .int (-1), .int 0, .ref q_1, .int 0, .ref q_2])), (q_1, .inl (cI, 4, .inl (fun _ => 0))), (q_2, .inl (cI, 16, .inl (fun _ => 0)))]) H := hP
    have hD : va_D A ([(h, .inr (0, [.int x1, .int x2, .int x3, .int x4, .int (2 * x5), .int x6, .int x7, .int 0, .int 0, .int 0, .int 0, .int 0, .int 0, .int (-1), .int 0, .ref q_1, .int 0, .ref q_2])), (q_1, .inl (cI, 4, .inl (fun _ => 0))), (q_2, .inl (cI, 16, .inl (fun _ => 0)))]) := hD
    have e4 : kZ x1 x2 x3 x4 x5 x6 x7 4 = 2 * x5 := if_pos c_3
    have hP : va_P D vwCl ([(h, .inr (0, [.int x1, .int x2, .int x3, .int x4, .int (kZ x1 x2 x3 x4 x5 x6 x7 4), .int x6, .int x7, .int 0, .int 0, .int 0, .int 0, .int 0, .int 0, .int (-1), .int 0, .ref q_1, .int 0, .ref q_2])), (q_1, .inl (cI, 4, .inl (fun _ => 0))), (q_2, .inl (cI, 16, .inl (fun _ => 0)))]) H := by rw [e4]; exact hP
    have hD : va_D A ([(h, .inr (0, [.int x1, .int x2, .int x3, .int x4, .int (kZ x1 x2 x3 x4 x5 x6 x7 4), .int x6, .int x7, .int 0, .int 0, .int 0, .int 0, .int 0, .int 0, .int (-1), .int 0, .ref q_1, .int 0, .ref q_2])), (q_1, .inl (cI, 4, .inl (fun _ => 0))), (q_2, .inl (cI, 16, .inl (fun _ => 0)))]) := by rw [e4]; exact hD
    exact hret 115 _ H locs (fun k => match k with | 0 => q_1 | 1 => q_2 | _ => 0) hP hD hS dX0_init_115

set_option maxHeartbeats 4000000 in
set_option maxRecDepth 100000 in
theorem tX1_init (l : Launch) (D : va_G) (cI cZ cC : ClassId) (h : Nat)  : InV l yX1_init wsX1_init (rmA 1 6 2088) D cI cZ cC (fun _ => True) [.ref h] [(h, .inr (1, [.null, .null, .int 0, .null, .null, .int 0, .null, .null, .int 0, .int 0, .int 0, .int 0, .int 0]))] (fun u => wW cI (adh h u) vZ) 6 2088 := by
  refine InV.of (cc := cX1_init) (maxL := 1) (by decide) rfl (Nat.le_of_ble_eq_true rfl) ?_
  intro p e s m args below meth c Q A ls hx hb hml hts hown hin hK hE hP hD hS hA hret hl
  have hl : lv_has ls 1 [(0, .ref h)] := hl
  have hinX1 : ∀ w ∈ u_ws RX1 TX1 13, w ∈ wsX1_init := (fun w h => List.mem_cons_of_mem _ (List.mem_append_right _ h))
  refine lv_aload_n hx hb dX1_init_0 rfl (lv_at hl 0 rfl) ?_
  refine W.objInit hx hb hown (hts (.methodLink RX1 3 objectInit) (mem_at 1 rfl)) (hts (.instanceMethod objectInit) (mem_at 2 rfl)) (hts (.code objectInit ⟨#[0xb1]⟩ 1 none) (mem_at 3 rfl)) rfl (by rw [hml]; exact hl.1) rfl dX1_init_1 (Nat.le_of_ble_eq_true rfl) (Nat.le_of_ble_eq_true rfl) ?_
  refine W.eq (g2 := F0 m 4 ls []) rfl ?_
  refine lv_aload_n hx hb dX1_init_4 rfl (lv_at hl 0 rfl) ?_
  refine lv_bipush (v := 10) hx hb dX1_init_5 (by decide) ?_
  refine x_newi hx hb (hts (.arrayClass .int) (mem_at 4 rfl)) hK hP hD hS hA 10 (by decide) (by decide) (Nat.le_of_ble_eq_true rfl) (Nat.le_of_ble_eq_true rfl) (Nat.le_of_ble_eq_true rfl) dX1_init_7 (fun q_1 H hP hD hS => ?_)
  refine W.widen (k := 1) (n := 10) (Nat.le_of_ble_eq_true rfl) (Nat.le_of_ble_eq_true rfl) ?_
  have hP : va_P D vwCl ([(h, .inr (1, [.null, .null, .int 0, .null, .null, .int 0, .null, .null, .int 0, .int 0, .int 0, .int 0, .int 0])), (q_1, .inl (cI, 10, .inl (fun _ => 0)))]) H := hP
  have hD : va_D A ([(h, .inr (1, [.null, .null, .int 0, .null, .null, .int 0, .null, .null, .int 0, .int 0, .int 0, .int 0, .int 0])), (q_1, .inl (cI, 10, .inl (fun _ => 0)))]) := hD
  refine va_putF (D := D) (ci := 1) (v := .ref q_1) (ty := (.array .int)) (C := RX1) (T := TX1) (N := 13) hx hb hts hinX1 tyX1 tyX1_ok nmX1 hown hK hP hD hS 0 rfl rfl 0 (by decide) (hts (.fieldLink RX1 11 "TroubleCodes$Workshop" "causeChecks" "[I") (mem_at 5 rfl)) (fun _ h9 => h9) rfl hin rfl (by decide +kernel) rfl rfl (Nat.le_of_ble_eq_true rfl) dX1_init_9 (fun H locs hP hD hS => ?_)
  have hP : va_P D vwCl ([(h, .inr (1, [.ref q_1, .null, .int 0, .null, .null, .int 0, .null, .null, .int 0, .int 0, .int 0, .int 0, .int 0])), (q_1, .inl (cI, 10, .inl (fun _ => 0)))]) H := hP
  have hD : va_D A ([(h, .inr (1, [.ref q_1, .null, .int 0, .null, .null, .int 0, .null, .null, .int 0, .int 0, .int 0, .int 0, .int 0])), (q_1, .inl (cI, 10, .inl (fun _ => 0)))]) := hD
  refine lv_aload_n hx hb dX1_init_12 rfl (lv_at hl 0 rfl) ?_
  refine lv_bipush (v := 10) hx hb dX1_init_13 (by decide) ?_
  refine x_newi hx hb (hts (.arrayClass .int) (mem_at 4 rfl)) hK hP hD hS hA 10 (by decide) (by decide) (Nat.le_of_ble_eq_true rfl) (Nat.le_of_ble_eq_true rfl) (Nat.le_of_ble_eq_true rfl) dX1_init_15 (fun q_2 H hP hD hS => ?_)
  refine W.widen (k := 2) (n := 20) (Nat.le_of_ble_eq_true rfl) (Nat.le_of_ble_eq_true rfl) ?_
  have hP : va_P D vwCl ([(h, .inr (1, [.ref q_1, .null, .int 0, .null, .null, .int 0, .null, .null, .int 0, .int 0, .int 0, .int 0, .int 0])), (q_1, .inl (cI, 10, .inl (fun _ => 0))), (q_2, .inl (cI, 10, .inl (fun _ => 0)))]) H := hP
  have hD : va_D A ([(h, .inr (1, [.ref q_1, .null, .int 0, .null, .null, .int 0, .null, .null, .int 0, .int 0, .int 0, .int 0, .int 0])), (q_1, .inl (cI, 10, .inl (fun _ => 0))), (q_2, .inl (cI, 10, .inl (fun _ => 0)))]) := hD
  refine va_putF (D := D) (ci := 1) (v := .ref q_2) (ty := (.array .int)) (C := RX1) (T := TX1) (N := 13) hx hb hts hinX1 tyX1 tyX1_ok nmX1 hown hK hP hD hS 0 rfl rfl 1 (by decide) (hts (.fieldLink RX1 15 "TroubleCodes$Workshop" "prices" "[I") (mem_at 6 rfl)) (fun _ h9 => h9) rfl hin rfl (by decide +kernel) rfl rfl (Nat.le_of_ble_eq_true rfl) dX1_init_17 (fun H locs hP hD hS => ?_)
  have hP : va_P D vwCl ([(h, .inr (1, [.ref q_1, .ref q_2, .int 0, .null, .null, .int 0, .null, .null, .int 0, .int 0, .int 0, .int 0, .int 0])), (q_1, .inl (cI, 10, .inl (fun _ => 0))), (q_2, .inl (cI, 10, .inl (fun _ => 0)))]) H := hP
  have hD : va_D A ([(h, .inr (1, [.ref q_1, .ref q_2, .int 0, .null, .null, .int 0, .null, .null, .int 0, .int 0, .int 0, .int 0, .int 0])), (q_1, .inl (cI, 10, .inl (fun _ => 0))), (q_2, .inl (cI, 10, .inl (fun _ => 0)))]) := hD
  refine lv_aload_n hx hb dX1_init_20 rfl (lv_at hl 0 rfl) ?_
  refine lv_iconst (v := 0) hx hb dX1_init_21 (by decide) ?_
  refine va_put (D := D) (ci := 1) (v := .int 0) (ty := .int) (C := RX1) (T := TX1) (N := 13) hx hb hts hinX1 tyX1 tyX1_ok nmX1 hown hK hP hD hS 0 rfl rfl 2 (by decide) (hts (.fieldLink RX1 18 "TroubleCodes$Workshop" "causeCount" "I") (mem_at 7 rfl)) (fun _ h9 => h9) rfl (by decide +kernel) rfl rfl (Nat.le_of_ble_eq_true rfl) dX1_init_22 (fun H locs hP hD hS => ?_)
  have hP : va_P D vwCl ([(h, .inr (1, [.ref q_1, .ref q_2, .int 0, .null, .null, .int 0, .null, .null, .int 0, .int 0, .int 0, .int 0, .int 0])), (q_1, .inl (cI, 10, .inl (fun _ => 0))), (q_2, .inl (cI, 10, .inl (fun _ => 0)))]) H := hP
  have hD : va_D A ([(h, .inr (1, [.ref q_1, .ref q_2, .int 0, .null, .null, .int 0, .null, .null, .int 0, .int 0, .int 0, .int 0, .int 0])), (q_1, .inl (cI, 10, .inl (fun _ => 0))), (q_2, .inl (cI, 10, .inl (fun _ => 0)))]) := hD
  refine lv_aload_n hx hb dX1_init_25 rfl (lv_at hl 0 rfl) ?_
  refine lv_sipush (v := 1024) hx hb dX1_init_26 (by decide) ?_
  refine x_newi hx hb (hts (.arrayClass .int) (mem_at 4 rfl)) hK hP hD hS hA 1024 (by decide) (by decide) (Nat.le_of_ble_eq_true rfl) (Nat.le_of_ble_eq_true rfl) (Nat.le_of_ble_eq_true rfl) dX1_init_29 (fun q_3 H hP hD hS => ?_)
  refine W.widen (k := 3) (n := 1044) (Nat.le_of_ble_eq_true rfl) (Nat.le_of_ble_eq_true rfl) ?_
  have hP : va_P D vwCl ([(h, .inr (1, [.ref q_1, .ref q_2, .int 0, .null, .null, .int 0, .null, .null, .int 0, .int 0, .int 0, .int 0, .int 0])), (q_1, .inl (cI, 10, .inl (fun _ => 0))), (q_2, .inl (cI, 10, .inl (fun _ => 0))), (q_3, .inl (cI, 1024, .inl (fun _ => 0)))]) H := hP
  have hD : va_D A ([(h, .inr (1, [.ref q_1, .ref q_2, .int 0, .null, .null, .int 0, .null, .null, .int 0, .int 0, .int 0, .int 0, .int 0])), (q_1, .inl (cI, 10, .inl (fun _ => 0))), (q_2, .inl (cI, 10, .inl (fun _ => 0))), (q_3, .inl (cI, 1024, .inl (fun _ => 0)))]) := hD
  refine va_putF (D := D) (ci := 1) (v := .ref q_3) (ty := (.array .int)) (C := RX1) (T := TX1) (N := 13) hx hb hts hinX1 tyX1 tyX1_ok nmX1 hown hK hP hD hS 0 rfl rfl 3 (by decide) (hts (.fieldLink RX1 22 "TroubleCodes$Workshop" "madeBad" "[I") (mem_at 8 rfl)) (fun _ h9 => h9) rfl hin rfl (by decide +kernel) rfl rfl (Nat.le_of_ble_eq_true rfl) dX1_init_31 (fun H locs hP hD hS => ?_)
  have hP : va_P D vwCl ([(h, .inr (1, [.ref q_1, .ref q_2, .int 0, .ref q_3, .null, .int 0, .null, .null, .int 0, .int 0, .int 0, .int 0, .int 0])), (q_1, .inl (cI, 10, .inl (fun _ => 0))), (q_2, .inl (cI, 10, .inl (fun _ => 0))), (q_3, .inl (cI, 1024, .inl (fun _ => 0)))]) H := hP
  have hD : va_D A ([(h, .inr (1, [.ref q_1, .ref q_2, .int 0, .ref q_3, .null, .int 0, .null, .null, .int 0, .int 0, .int 0, .int 0, .int 0])), (q_1, .inl (cI, 10, .inl (fun _ => 0))), (q_2, .inl (cI, 10, .inl (fun _ => 0))), (q_3, .inl (cI, 1024, .inl (fun _ => 0)))]) := hD
  refine lv_aload_n hx hb dX1_init_34 rfl (lv_at hl 0 rfl) ?_
  refine lv_bipush (v := 10) hx hb dX1_init_35 (by decide) ?_
  refine x_newi hx hb (hts (.arrayClass .int) (mem_at 4 rfl)) hK hP hD hS hA 10 (by decide) (by decide) (Nat.le_of_ble_eq_true rfl) (Nat.le_of_ble_eq_true rfl) (Nat.le_of_ble_eq_true rfl) dX1_init_37 (fun q_4 H hP hD hS => ?_)
  refine W.widen (k := 4) (n := 1054) (Nat.le_of_ble_eq_true rfl) (Nat.le_of_ble_eq_true rfl) ?_
  have hP : va_P D vwCl ([(h, .inr (1, [.ref q_1, .ref q_2, .int 0, .ref q_3, .null, .int 0, .null, .null, .int 0, .int 0, .int 0, .int 0, .int 0])), (q_1, .inl (cI, 10, .inl (fun _ => 0))), (q_2, .inl (cI, 10, .inl (fun _ => 0))), (q_3, .inl (cI, 1024, .inl (fun _ => 0))), (q_4, .inl (cI, 10, .inl (fun _ => 0)))]) H := hP
  have hD : va_D A ([(h, .inr (1, [.ref q_1, .ref q_2, .int 0, .ref q_3, .null, .int 0, .null, .null, .int 0, .int 0, .int 0, .int 0, .int 0])), (q_1, .inl (cI, 10, .inl (fun _ => 0))), (q_2, .inl (cI, 10, .inl (fun _ => 0))), (q_3, .inl (cI, 1024, .inl (fun _ => 0))), (q_4, .inl (cI, 10, .inl (fun _ => 0)))]) := hD
  refine va_putF (D := D) (ci := 1) (v := .ref q_4) (ty := (.array .int)) (C := RX1) (T := TX1) (N := 13) hx hb hts hinX1 tyX1 tyX1_ok nmX1 hown hK hP hD hS 0 rfl rfl 4 (by decide) (hts (.fieldLink RX1 25 "TroubleCodes$Workshop" "least" "[I") (mem_at 9 rfl)) (fun _ h9 => h9) rfl hin rfl (by decide +kernel) rfl rfl (Nat.le_of_ble_eq_true rfl) dX1_init_39 (fun H locs hP hD hS => ?_)
  have hP : va_P D vwCl ([(h, .inr (1, [.ref q_1, .ref q_2, .int 0, .ref q_3, .ref q_4, .int 0, .null, .null, .int 0, .int 0, .int 0, .int 0, .int 0])), (q_1, .inl (cI, 10, .inl (fun _ => 0))), (q_2, .inl (cI, 10, .inl (fun _ => 0))), (q_3, .inl (cI, 1024, .inl (fun _ => 0))), (q_4, .inl (cI, 10, .inl (fun _ => 0)))]) H := hP
  have hD : va_D A ([(h, .inr (1, [.ref q_1, .ref q_2, .int 0, .ref q_3, .ref q_4, .int 0, .null, .null, .int 0, .int 0, .int 0, .int 0, .int 0])), (q_1, .inl (cI, 10, .inl (fun _ => 0))), (q_2, .inl (cI, 10, .inl (fun _ => 0))), (q_3, .inl (cI, 1024, .inl (fun _ => 0))), (q_4, .inl (cI, 10, .inl (fun _ => 0)))]) := hD
  refine lv_aload_n hx hb dX1_init_42 rfl (lv_at hl 0 rfl) ?_
  refine lv_iconst (v := 0) hx hb dX1_init_43 (by decide) ?_
  refine va_put (D := D) (ci := 1) (v := .int 0) (ty := .int) (C := RX1) (T := TX1) (N := 13) hx hb hts hinX1 tyX1 tyX1_ok nmX1 hown hK hP hD hS 0 rfl rfl 5 (by decide) (hts (.fieldLink RX1 28 "TroubleCodes$Workshop" "leastCount" "I") (mem_at 10 rfl)) (fun _ h9 => h9) rfl (by decide +kernel) rfl rfl (Nat.le_of_ble_eq_true rfl) dX1_init_44 (fun H locs hP hD hS => ?_)
  have hP : va_P D vwCl ([(h, .inr (1, [.ref q_1, .ref q_2, .int 0, .ref q_3, .ref q_4, .int 0, .null, .null, .int 0, .int 0, .int 0, .int 0, .int 0])), (q_1, .inl (cI, 10, .inl (fun _ => 0))), (q_2, .inl (cI, 10, .inl (fun _ => 0))), (q_3, .inl (cI, 1024, .inl (fun _ => 0))), (q_4, .inl (cI, 10, .inl (fun _ => 0)))]) H := hP
  have hD : va_D A ([(h, .inr (1, [.ref q_1, .ref q_2, .int 0, .ref q_3, .ref q_4, .int 0, .null, .null, .int 0, .int 0, .int 0, .int 0, .int 0])), (q_1, .inl (cI, 10, .inl (fun _ => 0))), (q_2, .inl (cI, 10, .inl (fun _ => 0))), (q_3, .inl (cI, 1024, .inl (fun _ => 0))), (q_4, .inl (cI, 10, .inl (fun _ => 0)))]) := hD
  refine lv_aload_n hx hb dX1_init_47 rfl (lv_at hl 0 rfl) ?_
  refine lv_bipush (v := 10) hx hb dX1_init_48 (by decide) ?_
  refine x_newi hx hb (hts (.arrayClass .int) (mem_at 4 rfl)) hK hP hD hS hA 10 (by decide) (by decide) (Nat.le_of_ble_eq_true rfl) (Nat.le_of_ble_eq_true rfl) (Nat.le_of_ble_eq_true rfl) dX1_init_50 (fun q_5 H hP hD hS => ?_)
  refine W.widen (k := 5) (n := 1064) (Nat.le_of_ble_eq_true rfl) (Nat.le_of_ble_eq_true rfl) ?_
  have hP : va_P D vwCl ([(h, .inr (1, [.ref q_1, .ref q_2, .int 0, .ref q_3, .ref q_4, .int 0, .null, .null, .int 0, .int 0, .int 0, .int 0, .int 0])), (q_1, .inl (cI, 10, .inl (fun _ => 0))), (q_2, .inl (cI, 10, .inl (fun _ => 0))), (q_3, .inl (cI, 1024, .inl (fun _ => 0))), (q_4, .inl (cI, 10, .inl (fun _ => 0))), (q_5, .inl (cI, 10, .inl (fun _ => 0)))]) H := hP
  have hD : va_D A ([(h, .inr (1, [.ref q_1, .ref q_2, .int 0, .ref q_3, .ref q_4, .int 0, .null, .null, .int 0, .int 0, .int 0, .int 0, .int 0])), (q_1, .inl (cI, 10, .inl (fun _ => 0))), (q_2, .inl (cI, 10, .inl (fun _ => 0))), (q_3, .inl (cI, 1024, .inl (fun _ => 0))), (q_4, .inl (cI, 10, .inl (fun _ => 0))), (q_5, .inl (cI, 10, .inl (fun _ => 0)))]) := hD
  refine va_putF (D := D) (ci := 1) (v := .ref q_5) (ty := (.array .int)) (C := RX1) (T := TX1) (N := 13) hx hb hts hinX1 tyX1 tyX1_ok nmX1 hown hK hP hD hS 0 rfl rfl 6 (by decide) (hts (.fieldLink RX1 31 "TroubleCodes$Workshop" "holders" "[I") (mem_at 11 rfl)) (fun _ h9 => h9) rfl hin rfl (by decide +kernel) rfl rfl (Nat.le_of_ble_eq_true rfl) dX1_init_52 (fun H locs hP hD hS => ?_)
  have hP : va_P D vwCl ([(h, .inr (1, [.ref q_1, .ref q_2, .int 0, .ref q_3, .ref q_4, .int 0, .ref q_5, .null, .int 0, .int 0, .int 0, .int 0, .int 0])), (q_1, .inl (cI, 10, .inl (fun _ => 0))), (q_2, .inl (cI, 10, .inl (fun _ => 0))), (q_3, .inl (cI, 1024, .inl (fun _ => 0))), (q_4, .inl (cI, 10, .inl (fun _ => 0))), (q_5, .inl (cI, 10, .inl (fun _ => 0)))]) H := hP
  have hD : va_D A ([(h, .inr (1, [.ref q_1, .ref q_2, .int 0, .ref q_3, .ref q_4, .int 0, .ref q_5, .null, .int 0, .int 0, .int 0, .int 0, .int 0])), (q_1, .inl (cI, 10, .inl (fun _ => 0))), (q_2, .inl (cI, 10, .inl (fun _ => 0))), (q_3, .inl (cI, 1024, .inl (fun _ => 0))), (q_4, .inl (cI, 10, .inl (fun _ => 0))), (q_5, .inl (cI, 10, .inl (fun _ => 0)))]) := hD
  refine lv_aload_n hx hb dX1_init_55 rfl (lv_at hl 0 rfl) ?_
  refine lv_sipush (v := 1024) hx hb dX1_init_56 (by decide) ?_
  refine x_newi hx hb (hts (.arrayClass .int) (mem_at 4 rfl)) hK hP hD hS hA 1024 (by decide) (by decide) (Nat.le_of_ble_eq_true rfl) (Nat.le_of_ble_eq_true rfl) (Nat.le_of_ble_eq_true rfl) dX1_init_59 (fun q_6 H hP hD hS => ?_)
  refine W.widen (k := 6) (n := 2088) (Nat.le_of_ble_eq_true rfl) (Nat.le_of_ble_eq_true rfl) ?_
  have hP : va_P D vwCl ([(h, .inr (1, [.ref q_1, .ref q_2, .int 0, .ref q_3, .ref q_4, .int 0, .ref q_5, .null, .int 0, .int 0, .int 0, .int 0, .int 0])), (q_1, .inl (cI, 10, .inl (fun _ => 0))), (q_2, .inl (cI, 10, .inl (fun _ => 0))), (q_3, .inl (cI, 1024, .inl (fun _ => 0))), (q_4, .inl (cI, 10, .inl (fun _ => 0))), (q_5, .inl (cI, 10, .inl (fun _ => 0))), (q_6, .inl (cI, 1024, .inl (fun _ => 0)))]) H := hP
  have hD : va_D A ([(h, .inr (1, [.ref q_1, .ref q_2, .int 0, .ref q_3, .ref q_4, .int 0, .ref q_5, .null, .int 0, .int 0, .int 0, .int 0, .int 0])), (q_1, .inl (cI, 10, .inl (fun _ => 0))), (q_2, .inl (cI, 10, .inl (fun _ => 0))), (q_3, .inl (cI, 1024, .inl (fun _ => 0))), (q_4, .inl (cI, 10, .inl (fun _ => 0))), (q_5, .inl (cI, 10, .inl (fun _ => 0))), (q_6, .inl (cI, 1024, .inl (fun _ => 0)))]) := hD
  refine va_putF (D := D) (ci := 1) (v := .ref q_6) (ty := (.array .int)) (C := RX1) (T := TX1) (N := 13) hx hb hts hinX1 tyX1 tyX1_ok nmX1 hown hK hP hD hS 0 rfl rfl 7 (by decide) (hts (.fieldLink RX1 34 "TroubleCodes$Workshop" "sums" "[I") (mem_at 12 rfl)) (fun _ h9 => h9) rfl hin rfl (by decide +kernel) rfl rfl (Nat.le_of_ble_eq_true rfl) dX1_init_61 (fun H locs hP hD hS => ?_)
  have hP : va_P D vwCl ([(h, .inr (1, [.ref q_1, .ref q_2, .int 0, .ref q_3, .ref q_4, .int 0, .ref q_5, .ref q_6, .int 0, .int 0, .int 0, .int 0, .int 0])), (q_1, .inl (cI, 10, .inl (fun _ => 0))), (q_2, .inl (cI, 10, .inl (fun _ => 0))), (q_3, .inl (cI, 1024, .inl (fun _ => 0))), (q_4, .inl (cI, 10, .inl (fun _ => 0))), (q_5, .inl (cI, 10, .inl (fun _ => 0))), (q_6, .inl (cI, 1024, .inl (fun _ => 0)))]) H := hP
  have hD : va_D A ([(h, .inr (1, [.ref q_1, .ref q_2, .int 0, .ref q_3, .ref q_4, .int 0, .ref q_5, .ref q_6, .int 0, .int 0, .int 0, .int 0, .int 0])), (q_1, .inl (cI, 10, .inl (fun _ => 0))), (q_2, .inl (cI, 10, .inl (fun _ => 0))), (q_3, .inl (cI, 1024, .inl (fun _ => 0))), (q_4, .inl (cI, 10, .inl (fun _ => 0))), (q_5, .inl (cI, 10, .inl (fun _ => 0))), (q_6, .inl (cI, 1024, .inl (fun _ => 0)))]) := hD
  refine lv_aload_n hx hb dX1_init_64 rfl (lv_at hl 0 rfl) ?_
  refine lv_iconst (v := (-1)) hx hb dX1_init_65 (by decide) ?_
  refine va_put (D := D) (ci := 1) (v := .int (-1)) (ty := .int) (C := RX1) (T := TX1) (N := 13) hx hb hts hinX1 tyX1 tyX1_ok nmX1 hown hK hP hD hS 0 rfl rfl 8 (by decide) (hts (.fieldLink RX1 37 "TroubleCodes$Workshop" "firstTest" "I") (mem_at 13 rfl)) (fun _ h9 => h9) rfl (by decide +kernel) rfl rfl (Nat.le_of_ble_eq_true rfl) dX1_init_66 (fun H locs hP hD hS => ?_)
  have hP : va_P D vwCl ([(h, .inr (1, [.ref q_1, .ref q_2, .int 0, .ref q_3, .ref q_4, .int 0, .ref q_5, .ref q_6, .int (-1), .int 0, .int 0, .int 0, .int 0])), (q_1, .inl (cI, 10, .inl (fun _ => 0))), (q_2, .inl (cI, 10, .inl (fun _ => 0))), (q_3, .inl (cI, 1024, .inl (fun _ => 0))), (q_4, .inl (cI, 10, .inl (fun _ => 0))), (q_5, .inl (cI, 10, .inl (fun _ => 0))), (q_6, .inl (cI, 1024, .inl (fun _ => 0)))]) H := hP
  have hD : va_D A ([(h, .inr (1, [.ref q_1, .ref q_2, .int 0, .ref q_3, .ref q_4, .int 0, .ref q_5, .ref q_6, .int (-1), .int 0, .int 0, .int 0, .int 0])), (q_1, .inl (cI, 10, .inl (fun _ => 0))), (q_2, .inl (cI, 10, .inl (fun _ => 0))), (q_3, .inl (cI, 1024, .inl (fun _ => 0))), (q_4, .inl (cI, 10, .inl (fun _ => 0))), (q_5, .inl (cI, 10, .inl (fun _ => 0))), (q_6, .inl (cI, 1024, .inl (fun _ => 0)))]) := hD
  refine lv_aload_n hx hb dX1_init_69 rfl (lv_at hl 0 rfl) ?_
  refine lv_iconst (v := 0) hx hb dX1_init_70 (by decide) ?_
  refine va_put (D := D) (ci := 1) (v := .int 0) (ty := .int) (C := RX1) (T := TX1) (N := 13) hx hb hts hinX1 tyX1 tyX1_ok nmX1 hown hK hP hD hS 0 rfl rfl 9 (by decide) (hts (.fieldLink RX1 40 "TroubleCodes$Workshop" "seenRan" "I") (mem_at 14 rfl)) (fun _ h9 => h9) rfl (by decide +kernel) rfl rfl (Nat.le_of_ble_eq_true rfl) dX1_init_71 (fun H locs hP hD hS => ?_)
  have hP : va_P D vwCl ([(h, .inr (1, [.ref q_1, .ref q_2, .int 0, .ref q_3, .ref q_4, .int 0, .ref q_5, .ref q_6, .int (-1), .int 0, .int 0, .int 0, .int 0])), (q_1, .inl (cI, 10, .inl (fun _ => 0))), (q_2, .inl (cI, 10, .inl (fun _ => 0))), (q_3, .inl (cI, 1024, .inl (fun _ => 0))), (q_4, .inl (cI, 10, .inl (fun _ => 0))), (q_5, .inl (cI, 10, .inl (fun _ => 0))), (q_6, .inl (cI, 1024, .inl (fun _ => 0)))]) H := hP
  have hD : va_D A ([(h, .inr (1, [.ref q_1, .ref q_2, .int 0, .ref q_3, .ref q_4, .int 0, .ref q_5, .ref q_6, .int (-1), .int 0, .int 0, .int 0, .int 0])), (q_1, .inl (cI, 10, .inl (fun _ => 0))), (q_2, .inl (cI, 10, .inl (fun _ => 0))), (q_3, .inl (cI, 1024, .inl (fun _ => 0))), (q_4, .inl (cI, 10, .inl (fun _ => 0))), (q_5, .inl (cI, 10, .inl (fun _ => 0))), (q_6, .inl (cI, 1024, .inl (fun _ => 0)))]) := hD
  refine lv_aload_n hx hb dX1_init_74 rfl (lv_at hl 0 rfl) ?_
  refine lv_iconst (v := 0) hx hb dX1_init_75 (by decide) ?_
  refine va_put (D := D) (ci := 1) (v := .int 0) (ty := .int) (C := RX1) (T := TX1) (N := 13) hx hb hts hinX1 tyX1 tyX1_ok nmX1 hown hK hP hD hS 0 rfl rfl 10 (by decide) (hts (.fieldLink RX1 43 "TroubleCodes$Workshop" "seenSet" "I") (mem_at 15 rfl)) (fun _ h9 => h9) rfl (by decide +kernel) rfl rfl (Nat.le_of_ble_eq_true rfl) dX1_init_76 (fun H locs hP hD hS => ?_)
  have hP : va_P D vwCl ([(h, .inr (1, [.ref q_1, .ref q_2, .int 0, .ref q_3, .ref q_4, .int 0, .ref q_5, .ref q_6, .int (-1), .int 0, .int 0, .int 0, .int 0])), (q_1, .inl (cI, 10, .inl (fun _ => 0))), (q_2, .inl (cI, 10, .inl (fun _ => 0))), (q_3, .inl (cI, 1024, .inl (fun _ => 0))), (q_4, .inl (cI, 10, .inl (fun _ => 0))), (q_5, .inl (cI, 10, .inl (fun _ => 0))), (q_6, .inl (cI, 1024, .inl (fun _ => 0)))]) H := hP
  have hD : va_D A ([(h, .inr (1, [.ref q_1, .ref q_2, .int 0, .ref q_3, .ref q_4, .int 0, .ref q_5, .ref q_6, .int (-1), .int 0, .int 0, .int 0, .int 0])), (q_1, .inl (cI, 10, .inl (fun _ => 0))), (q_2, .inl (cI, 10, .inl (fun _ => 0))), (q_3, .inl (cI, 1024, .inl (fun _ => 0))), (q_4, .inl (cI, 10, .inl (fun _ => 0))), (q_5, .inl (cI, 10, .inl (fun _ => 0))), (q_6, .inl (cI, 1024, .inl (fun _ => 0)))]) := hD
  refine lv_aload_n hx hb dX1_init_79 rfl (lv_at hl 0 rfl) ?_
  refine lv_iconst (v := (-1)) hx hb dX1_init_80 (by decide) ?_
  refine va_put (D := D) (ci := 1) (v := .int (-1)) (ty := .int) (C := RX1) (T := TX1) (N := 13) hx hb hts hinX1 tyX1 tyX1_ok nmX1 hown hK hP hD hS 0 rfl rfl 11 (by decide) (hts (.fieldLink RX1 46 "TroubleCodes$Workshop" "seenCauses" "I") (mem_at 16 rfl)) (fun _ h9 => h9) rfl (by decide +kernel) rfl rfl (Nat.le_of_ble_eq_true rfl) dX1_init_81 (fun H locs hP hD hS => ?_)
  have hP : va_P D vwCl ([(h, .inr (1, [.ref q_1, .ref q_2, .int 0, .ref q_3, .ref q_4, .int 0, .ref q_5, .ref q_6, .int (-1), .int 0, .int 0, .int (-1), .int 0])), (q_1, .inl (cI, 10, .inl (fun _ => 0))), (q_2, .inl (cI, 10, .inl (fun _ => 0))), (q_3, .inl (cI, 1024, .inl (fun _ => 0))), (q_4, .inl (cI, 10, .inl (fun _ => 0))), (q_5, .inl (cI, 10, .inl (fun _ => 0))), (q_6, .inl (cI, 1024, .inl (fun _ => 0)))]) H := hP
  have hD : va_D A ([(h, .inr (1, [.ref q_1, .ref q_2, .int 0, .ref q_3, .ref q_4, .int 0, .ref q_5, .ref q_6, .int (-1), .int 0, .int 0, .int (-1), .int 0])), (q_1, .inl (cI, 10, .inl (fun _ => 0))), (q_2, .inl (cI, 10, .inl (fun _ => 0))), (q_3, .inl (cI, 1024, .inl (fun _ => 0))), (q_4, .inl (cI, 10, .inl (fun _ => 0))), (q_5, .inl (cI, 10, .inl (fun _ => 0))), (q_6, .inl (cI, 1024, .inl (fun _ => 0)))]) := hD
  refine lv_aload_n hx hb dX1_init_84 rfl (lv_at hl 0 rfl) ?_
  refine lv_iconst (v := 0) hx hb dX1_init_85 (by decide) ?_
  refine va_put (D := D) (ci := 1) (v := .int 0) (ty := .boolean) (C := RX1) (T := TX1) (N := 13) hx hb hts hinX1 tyX1 tyX1_ok nmX1 hown hK hP hD hS 0 rfl rfl 12 (by decide) (hts (.fieldLink RX1 49 "TroubleCodes$Workshop" "planned" "Z") (mem_at 17 rfl)) (fun _ h9 => h9) rfl (by decide +kernel) rfl rfl (Nat.le_of_ble_eq_true rfl) dX1_init_86 (fun H locs hP hD hS => ?_)
  have hP : va_P D vwCl ([(h, .inr (1, [.ref q_1, .ref q_2, .int 0, .ref q_3, .ref q_4, .int 0, .ref q_5, .ref q_6, .int (-1), .int 0, .int 0, .int (-1), .int 0])), (q_1, .inl (cI, 10, .inl (fun _ => 0))), (q_2, .inl (cI, 10, .inl (fun _ => 0))), (q_3, .inl (cI, 1024, .inl (fun _ => 0))), (q_4, .inl (cI, 10, .inl (fun _ => 0))), (q_5, .inl (cI, 10, .inl (fun _ => 0))), (q_6, .inl (cI, 1024, .inl (fun _ => 0)))]) H := hP
  have hD : va_D A ([(h, .inr (1, [.ref q_1, .ref q_2, .int 0, .ref q_3, .ref q_4, .int 0, .ref q_5, .ref q_6, .int (-1), .int 0, .int 0, .int (-1), .int 0])), (q_1, .inl (cI, 10, .inl (fun _ => 0))), (q_2, .inl (cI, 10, .inl (fun _ => 0))), (q_3, .inl (cI, 1024, .inl (fun _ => 0))), (q_4, .inl (cI, 10, .inl (fun _ => 0))), (q_5, .inl (cI, 10, .inl (fun _ => 0))), (q_6, .inl (cI, 1024, .inl (fun _ => 0)))]) := hD
  exact hret 89 _ H locs (fun k => match k with | 4 => q_1 | 5 => q_2 | 6 => q_3 | 7 => q_4 | 8 => q_5 | 9 => q_6 | _ => 0) hP hD hS dX1_init_89
