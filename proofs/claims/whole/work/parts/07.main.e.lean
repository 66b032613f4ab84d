def fX2_end (n : Nat) (t C FF FO : Nat → Nat → Int32) : Int32 × (Nat → Nat → Int32) × (Nat → Nat → Int32) × (Nat → Nat → Int32) × (Nat → Nat → Int32) :=
  if t 6 0 = 0 then (-3, t, C, FF, FO) else ((enC n t C FF FO n).1, va_up (va_up (enC n t C FF FO n).2.1 5 (fun _ => (enC n t C FF FO n).2.1 5 0 + 1)) 6 (fun _ => 0), (enC n t C FF FO n).2.2)

set_option maxHeartbeats 4000000 in
set_option maxRecDepth 100000 in
theorem tX2_end (l : Launch) (D : va_G) (cI cZ cC : ClassId) (ad : Nat → Nat) (n : Nat) (t v C FF FO : Nat → Nat → Int32) (hn : t 1 0 = nI n) (hnb : n ≤ 16) (hfo : ∀ k, k < n → C k 0 = 2 → ∃ f, f < n ∧ C k 1 = nI f) : WrI l yX2_end wsX2_end (rmK 5) D cI cZ cC [.ref (ad 0)] (cW cI cC ad n t v C FF FO) (cW cI cC ad n ((fX2_end n t C FF FO).2.1) v ((fX2_end n t C FF FO).2.2.1) ((fX2_end n t C FF FO).2.2.2.1) ((fX2_end n t C FF FO).2.2.2.2)) (fun ans => ans = (fX2_end n t C FF FO).1) := by
  refine WrI.of (cc := cX2_end) (maxL := 4) (ret := .int) (by decide) rfl (Nat.le_of_ble_eq_true rfl) ?_
  intro p e s m args below meth c Q A ls hx hb hml hts hown hK hP hD hS hA hret hl
  have hl : lv_has ls 4 [(0, .ref (ad 0))] := hl
  have hne : ∀ k, (enC n t C FF FO k).2.1 1 0 = nI n := fun k => by rw [en_t n t C FF FO 1 (by decide)]; exact hn
  have hinX2 : ∀ w ∈ u_ws RX2 TX2 9, w ∈ wsX2_end := (fun w h => List.mem_cons_of_mem _ (List.mem_append_left _ (List.mem_append_right _ h)))
  refine lv_aload_n hx hb dX2_end_0 rfl (lv_at hl 0 rfl) ?_
  refine va_get (D := D) (ci := 2) (v := .int (t 6 0)) (C := RX2) (T := TX2) (N := 9) hx hb hts hinX2 hown hK hP 0 rfl rfl 6 (by decide) (hts (.fieldLink RX2 32 "TroubleCodes" "driving" "Z") (mem_at 1 rfl)) (fun _ h9 => h9) rfl dX2_end_1 ?_
  refine lv_if_ne (tgt := 10) hx hb dX2_end_4 (by decide) (fun c_1 => ?_) (fun c_1 => ?_)
  · refine lv_iconst (v := 0) hx hb dX2_end_10 (by decide) ?_
    refine lv_istore_n (lv' := [(1, .int 0), (0, .ref (ad 0))]) hx hb dX2_end_11 rfl hl (by decide) rfl (fun ls hl => ?_)
    refine lv_iconst (v := 0) hx hb dX2_end_12 (by decide) ?_
    refine lv_istore_n (lv' := [(2, .int 0), (1, .int 0), (0, .ref (ad 0))]) hx hb dX2_end_13 rfl hl (by decide) rfl (fun ls hl => ?_)
    have LOOP_2 : ∀ (fu k : Nat), k ≤ n → n - k < fu → ∀ (H : Heap) (locs : List Loc) (ls : Array Slot), va_P D vwCl (cW cI cC ad n ((enC n t C FF FO k).2.1) v ((enC n t C FF FO k).2.2.1) ((enC n t C FF FO k).2.2.2.1) ((enC n t C FF FO k).2.2.2.2)) H → va_D A (cW cI cC ad n ((enC n t C FF FO k).2.1) v ((enC n t C FF FO k).2.2.1) ((enC n t C FF FO k).2.2.2.1) ((enC n t C FF FO k).2.2.2.2)) → va_S A s.heap H locs → lv_has ls 4 [(0, .ref (ad 0)), (1, .int ((enC n t C FF FO k).1)), (2, .int (nI k))] → W p l e (rmK 5) s m args below meth c H locs 0 0 Q (F0 m 14 ls []) := by
      intro fu
      induction fu with
      | zero => intro k h1 h2; exact absurd h2 (Nat.not_lt_zero _)
      | succ fu ih =>
        intro k hkn hfu  H locs ls hP hD hS hl
        refine lv_iload_n hx hb dX2_end_14 rfl (lv_at hl 2 rfl) ?_
        refine lv_aload_n hx hb dX2_end_15 rfl (lv_at hl 0 rfl) ?_
        refine va_get (D := D) (ci := 2) (v := .int (((enC n t C FF FO k).2.1) 1 0)) (C := RX2) (T := TX2) (N := 9) hx hb hts hinX2 hown hK hP 0 rfl rfl 1 (by decide) (hts (.fieldLink RX2 15 "TroubleCodes" "checkCount" "I") (mem_at 2 rfl)) (fun _ h9 => h9) rfl dX2_end_16 ?_
        refine lv_icmp_ge (tgt := 49) hx hb dX2_end_19 (by decide) (fun c_3 => ?_) (fun c_3 => ?_)
        · have ekn : n = k := Nat.le_antisymm (kx_ge (hne k) (by omega) (by omega) c_3) hkn
          subst ekn
          refine lv_aload_n hx hb dX2_end_49 rfl (lv_at hl 0 rfl) ?_
          refine lv_iconst (v := 0) hx hb dX2_end_50 (by decide) ?_
          refine va_put (D := D) (ci := 2) (v := .int 0) (ty := .boolean) (C := RX2) (T := TX2) (N := 9) hx hb hts hinX2 tyX2 tyX2_ok nmX2 hown hK hP hD hS 0 rfl rfl 6 (by decide) (hts (.fieldLink RX2 32 "TroubleCodes" "driving" "Z") (mem_at 1 rfl)) (fun _ h9 => h9) rfl (by decide +kernel) rfl rfl (Nat.le_of_ble_eq_true rfl) dX2_end_51 (fun H locs hP hD hS => ?_)
          have hP : va_P D vwCl (cW cI cC ad n (va_up ((enC n t C FF FO n).2.1) 6 (fun _ => 0)) v ((enC n t C FF FO n).2.2.1) ((enC n t C FF FO n).2.2.2.1) ((enC n t C FF FO n).2.2.2.2)) H := hP
          have hD : va_D A (cW cI cC ad n (va_up ((enC n t C FF FO n).2.1) 6 (fun _ => 0)) v ((enC n t C FF FO n).2.2.1) ((enC n t C FF FO n).2.2.2.1) ((enC n t C FF FO n).2.2.2.2)) := hD
          refine lv_aload_n hx hb dX2_end_54 rfl (lv_at hl 0 rfl) ?_
          refine lv_dup hx hb dX2_end_55 rfl ?_
          refine va_get (D := D) (ci := 2) (v := .int (((enC n t C FF FO n).2.1) 5 0)) (C := RX2) (T := TX2) (N := 9) hx hb hts hinX2 hown hK hP 0 rfl rfl 5 (by decide) (hts (.fieldLink RX2 29 "TroubleCodes" "drivesEnded" "I") (mem_at 3 rfl)) (fun _ h9 => h9) rfl dX2_end_56 ?_
          refine lv_iconst (v := 1) hx hb dX2_end_59 (by decide) ?_
          refine lv_iadd hx hb dX2_end_60 ?_
          refine va_put (D := D) (ci := 2) (v := .int ((((enC n t C FF FO n).2.1) 5 0) + 1)) (ty := .int) (C := RX2) (T := TX2) (N := 9) hx hb hts hinX2 tyX2 tyX2_ok nmX2 hown hK hP hD hS 0 rfl rfl 5 (by decide) (hts (.fieldLink RX2 29 "TroubleCodes" "drivesEnded" "I") (mem_at 3 rfl)) (fun _ h9 => h9) rfl (by decide +kernel) rfl rfl (Nat.le_of_ble_eq_true rfl) dX2_end_61 (fun H locs hP hD hS => ?_)
          have hP : va_P D vwCl (cW cI cC ad n (va_up (va_up ((enC n t C FF FO n).2.1) 5 (fun _ => (((enC n t C FF FO n).2.1) 5 0) + 1)) 6 (fun _ => 0)) v ((enC n t C FF FO n).2.2.1) ((enC n t C FF FO n).2.2.2.1) ((enC n t C FF FO n).2.2.2.2)) H := hP
          have hD : va_D A (cW cI cC ad n (va_up (va_up ((enC n t C FF FO n).2.1) 5 (fun _ => (((enC n t C FF FO n).2.1) 5 0) + 1)) 6 (fun _ => 0)) v ((enC n t C FF FO n).2.2.1) ((enC n t C FF FO n).2.2.2.1) ((enC n t C FF FO n).2.2.2.2)) := hD
          refine lv_iload_n hx hb dX2_end_64 rfl (lv_at hl 1 rfl) ?_
          have es : fX2_end n t C FF FO = ((enC n t C FF FO n).1, va_up (va_up ((enC n t C FF FO n).2.1) 5 (fun _ => (((enC n t C FF FO n).2.1) 5 0) + 1)) 6 (fun _ => 0), ((enC n t C FF FO n).2.2.1), ((enC n t C FF FO n).2.2.2.1), ((enC n t C FF FO n).2.2.2.2)) := by rw [fX2_end, if_neg c_1]
          exact hret 65 _ _ _ _ (by rw [es]) (by rw [es]; exact hP) (by rw [es]; exact hD) hS rfl dX2_end_65
        · have hkl : k < n := kx_lt (hne k) (by omega) (by omega) c_3
          obtain ⟨r1, t1, C1, FF1, FO1, hx1⟩ : ∃ r1 t1 C1 FF1 FO1, (enC n t C FF FO k) = (r1, t1, C1, FF1, FO1) := ⟨_, _, _, _, _, rfl⟩
          have hn1 : t1 1 0 = nI n := by have h := en_t n t C FF FO 1 (by decide) k; rw [hx1] at h; rw [show t1 1 = t 1 from h]; exact hn
          have hfo1 : C1 k 0 = 2 → ∃ f, f < n ∧ C1 k 1 = nI f := by have h := fun r hr => en_keep n t C FF FO r k hr k; rw [hx1] at h; rw [show C1 k 0 = C k 0 from h 0 (by decide), show C1 k 1 = C k 1 from h 1 (by decide)]; exact hfo k hkl
          rw [hx1] at hP hD hl
          have hP : va_P D vwCl (cW cI cC ad n t1 v C1 FF1 FO1) H := hP
          have hD : va_D A (cW cI cC ad n t1 v C1 FF1 FO1) := hD
          have hl : lv_has ls 4 [(0, .ref (ad 0)), (1, .int r1), (2, .int (nI k))] := hl
          refine lv_aload_n hx hb dX2_end_22 rfl (lv_at hl 0 rfl) ?_
          refine lv_iload_n hx hb dX2_end_23 rfl (lv_at hl 2 rfl) ?_
          refine x_rqV (As := [.int (nI k)]) (rest := []) ⟨hx, hb, hml, hown, hts⟩ (tX2_checkAt l D cI cZ cC ad n t1 v C1 FF1 FO1 hn1 hnb (nI k)) (cwV 1 hts gX2_end_X2_checkAt rfl rfl rfl (by decide +kernel) ⟨Nat.le_of_ble_eq_true rfl, Nat.le_of_ble_eq_true rfl⟩) hK (x_recv (ci := 2) hK hP rfl (q0 := 0) rfl) hP rfl hl.1 rfl (Nat.le_of_ble_eq_true rfl) dX2_end_24 ⟨Nat.le_of_ble_eq_true rfl, Nat.le_of_ble_eq_true rfl⟩ (fun r_4 er_4 => ?_)
          have er_4 : r_4 = ckA ad t1 (nI k) := er_4
          subst er_4
          rw [ckA_k hn1 hnb hkl]
          refine W.eq (g2 := F0 m 27 ls [.ref (ad (16 + k))]) rfl ?_
          refine lv_astore_n (lv' := [(3, .ref (ad (16 + k))), (0, .ref (ad 0)), (1, .int r1), (2, .int (nI k))]) hx hb dX2_end_27 rfl hl (by decide) rfl (fun ls hl => ?_)
          refine lv_aload_n hx hb dX2_end_28 rfl (lv_at hl 0 rfl) ?_
          refine lv_ifnull hx hb dX2_end_29 ?_
          refine lv_aload_n hx hb dX2_end_32 rfl (lv_at hl 1 rfl) ?_
          refine lv_aload_n hx hb dX2_end_33 rfl (lv_at hl 0 rfl) ?_
          refine x_wiW (As := [.ref (ad (16 + k))]) (rest := []) ⟨hx, hb, hml, hown, hts⟩ (tX2_endFor l D cI cZ cC ad n t1 v C1 FF1 FO1 hn1 hnb k hkl hfo1) (cwV 1 hts gX2_end_X2_endFor rfl rfl rfl (by decide +kernel) ⟨Nat.le_of_ble_eq_true rfl, Nat.le_of_ble_eq_true rfl⟩) hK (x_recv (ci := 2) hK hP rfl (q0 := 0) rfl) hP hD hS hA rfl hl.1 rfl (Nat.le_of_ble_eq_true rfl) dX2_end_34 ⟨Nat.le_of_ble_eq_true rfl, Nat.le_of_ble_eq_true rfl⟩ (fun r_5 H locs er_5 hP hD hS => ?_)
          have er_5 : r_5 = (fX2_endFor n t1 C1 FF1 FO1 k).1 := er_5
          subst er_5
          refine lv_if_eq (tgt := 43) hx hb dX2_end_37 (by decide) (fun c_6 => ?_) (fun c_6 => ?_)
          · refine lv_iinc (v := nI (k + 1)) (lv' := [(2, .int (nI (k + 1))), (3, .ref (ad (16 + k))), (0, .ref (ad 0)), (1, .int r1)]) hx hb dX2_end_43 hl (k := 3) rfl (nI_1 _) (by decide) rfl (fun ls hl => ?_)
            refine lv_goto (tgt := 14) hx hb dX2_end_46 (by decide) ?_
            have hq_7 : enC n t C FF FO (k + 1) = (r1, (fX2_endFor n t1 C1 FF1 FO1 k).2) := by rw [enC, hx1]; simp only; rw [if_pos c_6]; rw [Int32.add_zero]
            have q_8 : cW cI cC ad n ((enC n t C FF FO (k + 1)).2.1) v ((enC n t C FF FO (k + 1)).2.2.1) ((enC n t C FF FO (k + 1)).2.2.2.1) ((enC n t C FF FO (k + 1)).2.2.2.2) = cW cI cC ad n ((fX2_endFor n t1 C1 FF1 FO1 k).2.1) v ((fX2_endFor n t1 C1 FF1 FO1 k).2.2.1) ((fX2_endFor n t1 C1 FF1 FO1 k).2.2.2.1) ((fX2_endFor n t1 C1 FF1 FO1 k).2.2.2.2) := by rw [hq_7]
            exact ih (k + 1) (by omega) (by omega) H locs ls (by rw [q_8]; exact hP) (by rw [q_8]; exact hD) hS (by rw [hq_7]; exact lv_sub hl [2, 3, 0] rfl)
          · refine lv_iinc (v := r1 + 1) (lv' := [(1, .int (r1 + 1)), (3, .ref (ad (16 + k))), (0, .ref (ad 0)), (2, .int (nI k))]) hx hb dX2_end_40 hl (k := 2) rfl rfl (by decide) rfl (fun ls hl => ?_)
            refine lv_iinc (v := nI (k + 1)) (lv' := [(2, .int (nI (k + 1))), (1, .int (r1 + 1)), (3, .ref (ad (16 + k))), (0, .ref (ad 0))]) hx hb dX2_end_43 hl (k := 3) rfl (nI_1 _) (by decide) rfl (fun ls hl => ?_)
            refine lv_goto (tgt := 14) hx hb dX2_end_46 (by decide) ?_
            have hq_9 : enC n t C FF FO (k + 1) = (r1 + 1, (fX2_endFor n t1 C1 FF1 FO1 k).2) := by rw [enC, hx1]; simp only; rw [if_neg c_6]
            have q_10 : cW cI cC ad n ((enC n t C FF FO (k + 1)).2.1) v ((enC n t C FF FO (k + 1)).2.2.1) ((enC n t C FF FO (k + 1)).2.2.2.1) ((enC n t C FF FO (k + 1)).2.2.2.2) = cW cI cC ad n ((fX2_endFor n t1 C1 FF1 FO1 k).2.1) v ((fX2_endFor n t1 C1 FF1 FO1 k).2.2.1) ((fX2_endFor n t1 C1 FF1 FO1 k).2.2.2.1) ((fX2_endFor n t1 C1 FF1 FO1 k).2.2.2.2) := by rw [hq_9]
            exact ih (k + 1) (by omega) (by omega) H locs ls (by rw [q_10]; exact hP) (by rw [q_10]; exact hD) hS (by rw [hq_9]; exact lv_sub hl [3, 1, 0] rfl)
    have q_11 : ((enC n t C FF FO 0).1 : Int32) = 0 := by rfl
    have q_12 : (nI 0 : Int32) = 0 := by rfl
    exact LOOP_2 (n - 0 + 1) 0 (Nat.zero_le _) (Nat.lt_succ_self _) _ _ ls (by skip; exact hP) (by skip; exact hD) hS (by rw [q_11, q_12]; exact lv_sub hl [2, 1, 0] rfl)
  · refine lv_bipush (v := (-3)) hx hb dX2_end_7 (by decide) ?_
    have es : fX2_end n t C FF FO = ((-3), t, C, FF, FO) := by rw [fX2_end, if_pos c_1]
    exact hret 9 _ _ _ _ (by rw [es]) (by rw [es]; exact hP) (by rw [es]; exact hD) hS rfl dX2_end_9

def cntC (C : Nat → Nat → Int32) : Nat → Nat
  | 0 => 0
  | k + 1 => cntC C k + (if C k 13 = -1 then 0 else 1)
theorem sum_cntC (C : Nat → Nat → Int32) : ∀ k : Nat, sumN (fun j => if C j 13 = -1 then 0 else 1) k = nI (cntC C k)
  | 0 => rfl
  | k + 1 => by
    rw [sumN, cntC, sum_cntC C k]
    split
    · exact (nI_add _ 0)
    · exact nI_1 _
theorem cntC_le (C : Nat → Nat → Int32) : ∀ k : Nat, cntC C k ≤ k
  | 0 => Nat.le_refl _
  | k + 1 => by have := cntC_le C k; rw [cntC]; split <;> omega
theorem cntC_congr {C E : Nat → Nat → Int32} : ∀ k : Nat, (∀ j, j < k → C j 13 = E j 13) → cntC C k = cntC E k
  | 0, _ => rfl
  | k + 1, h => by rw [cntC, cntC, cntC_congr k (fun j hj => h j (by omega)), h k (by omega)]
theorem cntC_up (C : Nat → Nat → Int32) (j : Nat) (f : Nat → Int32) (hf : f 13 = -1) (h : ¬ C j 13 = -1) : ∀ k : Nat, j < k → cntC (va_up C j f) k + 1 = cntC C k
  | 0, hj => absurd hj (Nat.not_lt_zero _)
  | k + 1, hj => by
    rw [cntC, cntC]
    by_cases hk : j = k
    · subst hk
      rw [cntC_congr (C := va_up C j f) (E := C) j (fun i hi => by simp [va_up, Nat.ne_of_lt hi])]
      simp [va_up, hf, h]
    · have := cntC_up C j f hf h k (by omega)
      have e : va_up C j f k = C k := by simp [va_up, Ne.symm hk]
      rw [e]; omega
def thC (r : Int32) (n : Nat) : Nat → (Nat → Nat → Int32) → (Nat → Nat → Int32)
  | 0, C => C
  | z + 1, C => if r < sumN (fun j => if C j 13 = -1 then 0 else 1) n ∧ ¬ lfC C n = none then thC r n z (va_up C (lfD C n) (fX0_thaw (C (lfD C n)))) else C
def fX2_room (n : Nat) (t C : Nat → Nat → Int32) (x : Int32) : Int32 × (Nat → Nat → Int32) × (Nat → Nat → Int32) := if 1 ≤ x ∧ x ≤ 8 then (t 3 0, va_up t 3 (fun _ => x), thC x n 17 C) else (-2, t, C)

set_option maxHeartbeats 4000000 in
set_option maxRecDepth 100000 in
theorem tX2_room (l : Launch) (D : va_G) (cI cZ cC : ClassId) (ad : Nat → Nat) (n : Nat) (t v C FF FO : Nat → Nat → Int32) (hn : t 1 0 = nI n) (hnb : n ≤ 16) (x : Int32) : WrI l yX2_room wsX2_room (rmK 4) D cI cZ cC [.ref (ad 0), .int x] (cW cI cC ad n t v C FF FO) (cW cI cC ad n ((fX2_room n t C x).2.1) v ((fX2_room n t C x).2.2) FF FO) (fun ans => ans = (fX2_room n t C x).1) := by
  refine WrI.of (cc := cX2_room) (maxL := 5) (ret := .int) (by decide) rfl (Nat.le_of_ble_eq_true rfl) ?_
  intro p e s m args below meth c Q A ls hx hb hml hts hown hK hP hD hS hA hret hl
  have hl : lv_has ls 5 [(0, .ref (ad 0)), (1, .int x)] := hl
  have hinX2 : ∀ w ∈ u_ws RX2 TX2 9, w ∈ wsX2_room := (fun w h => List.mem_cons_of_mem _ (List.mem_append_left _ (List.mem_append_right _ h)))
  refine lv_iload_n hx hb dX2_room_0 rfl (lv_at hl 1 rfl) ?_
  refine lv_iconst (v := 1) hx hb dX2_room_1 (by decide) ?_
  refine lv_bipush (v := 8) hx hb dX2_room_2 (by decide) ?_
  refine x_rdS (As := [.int x, .int 1, .int 8]) (rest := []) ⟨hx, hb, hml, hown, hts⟩ (tX2_isWithin l D cI cZ cC x 1 8) (va_cwS 3 hts gX2_room_X2_isWithin rfl rfl rfl (by decide +kernel) ⟨Nat.le_of_ble_eq_true rfl, Nat.le_of_ble_eq_true rfl⟩) hK trivial rfl hl.1 rfl (Nat.le_of_ble_eq_true rfl) dX2_room_4 ⟨Nat.le_of_ble_eq_true rfl, Nat.le_of_ble_eq_true rfl⟩ (fun r_1 er_1 => ?_)
  have er_1 : r_1 = bI (1 ≤ x ∧ x ≤ 8) := er_1
  subst er_1
  refine lv_if_ne (tgt := 13) hx hb dX2_room_7 (by decide) (fun c_2 => ?_) (fun c_2 => ?_)
  · have c_2 := bI_ne c_2
    refine lv_aload_n hx hb dX2_room_13 rfl (lv_at hl 0 rfl) ?_
    refine va_get (D := D) (ci := 2) (v := .int (t 3 0)) (C := RX2) (T := TX2) (N := 9) hx hb hts hinX2 hown hK hP 0 rfl rfl 3 (by decide) (hts (.fieldLink RX2 23 "TroubleCodes" "roomFor" "I") (mem_at 1 rfl)) (fun _ h9 => h9) rfl dX2_room_14 ?_
    refine lv_istore_n (lv' := [(2, .int (t 3 0)), (0, .ref (ad 0)), (1, .int x)]) hx hb dX2_room_17 rfl hl (by decide) rfl (fun ls hl => ?_)
    refine lv_aload_n hx hb dX2_room_18 rfl (lv_at hl 1 rfl) ?_
    refine lv_iload_n hx hb dX2_room_19 rfl (lv_at hl 2 rfl) ?_
    refine va_put (D := D) (ci := 2) (v := .int x) (ty := .int) (C := RX2) (T := TX2) (N := 9) hx hb hts hinX2 tyX2 tyX2_ok nmX2 hown hK hP hD hS 0 rfl rfl 3 (by decide) (hts (.fieldLink RX2 23 "TroubleCodes" "roomFor" "I") (mem_at 1 rfl)) (fun _ h9 => h9) rfl (by decide +kernel) rfl rfl (Nat.le_of_ble_eq_true rfl) dX2_room_20 (fun H locs hP hD hS => ?_)
    have hP : va_P D vwCl (cW cI cC ad n (va_up t 3 (fun _ => x)) v C FF FO) H := hP
    have hD : va_D A (cW cI cC ad n (va_up t 3 (fun _ => x)) v C FF FO) := hD
    refine lv_aload_n hx hb dX2_room_23 rfl (lv_at hl 1 rfl) ?_
    refine x_rdV (As := []) (rest := []) ⟨hx, hb, hml, hown, hts⟩ (tX2_frozenCount l D cI cZ cC ad n (va_up t 3 (fun _ => x)) v C FF FO hn hnb) (cwV 0 hts gX2_room_X2_frozenCount rfl rfl rfl (by decide +kernel) ⟨Nat.le_of_ble_eq_true rfl, Nat.le_of_ble_eq_true rfl⟩) hK (x_recv (ci := 2) hK hP rfl (q0 := 0) rfl) hP rfl hl.1 rfl (Nat.le_of_ble_eq_true rfl) dX2_room_24 ⟨Nat.le_of_ble_eq_true rfl, Nat.le_of_ble_eq_true rfl⟩ (fun r_3 er_3 => ?_)
    have er_3 : r_3 = sumN (fun j => if C j 13 = -1 then 0 else 1) n := er_3
    subst er_3
    refine lv_iload_n hx hb dX2_room_27 rfl (lv_at hl 2 rfl) ?_
    refine lv_isub hx hb dX2_room_28 ?_
    refine lv_istore_n (lv' := [(3, .int ((sumN (fun j => if C j 13 = -1 then 0 else 1) n) - x)), (2, .int (t 3 0)), (0, .ref (ad 0)), (1, .int x)]) hx hb dX2_room_29 rfl hl (by decide) rfl (fun ls hl => ?_)
    obtain ⟨rr, hrr8, err⟩ := ixin (m := 8) (z := 8) rfl (by decide) (show 0 ≤ x ∧ x ≤ 8 from ⟨Int32.le_trans (by decide) c_2.1, c_2.2⟩)
    have LOOP : ∀ (z : Nat) (B : Nat → Nat → Int32), cntC B n < z → thC x n z B = thC x n 17 C → ∀ (H : Heap) (locs : List Loc) (ls : Array Slot), va_P D vwCl (cW cI cC ad n (va_up t 3 (fun _ => x)) v B FF FO) H → va_D A (cW cI cC ad n (va_up t 3 (fun _ => x)) v B FF FO) → va_S A s.heap H locs → lv_has ls 5 [(0, .ref (ad 0)), (2, .int (t 3 0)), (3, .int (nI (cntC B n) - nI rr))] → W p l e (rmK 4) s m args below meth c H locs 0 0 Q (F0 m 30 ls []) := by
      intro z
      induction z with
      | zero => intro B h; exact absurd h (Nat.not_lt_zero _)
      | succ z ih =>
        intro B hct hfin H locs ls hP hD hS hl
        have hcn := cntC_le B n
        refine lv_iload_n hx hb dX2_room_30 rfl (lv_at hl 2 rfl) ?_
        refine lv_if_le (tgt := 59) hx hb dX2_room_31 (by decide) (fun c_4 => ?_) (fun c_4 => ?_)
        · refine lv_iload_n hx hb dX2_room_59 rfl (lv_at hl 1 rfl) ?_
          have ea : thC x n 17 C = B := by rw [← hfin, thC, if_neg (fun h => absurd h.1 (Int32.not_lt.mpr (by rw [sum_cntC, err]; exact (nI_leI (by omega) (by omega)).mpr (by have q := Int32.le_iff_toInt_le.mp c_4; rw [pk_sub_toInt (by omega) (by omega)] at q; simp at q; omega))))]
          have es : fX2_room n t C x = (t 3 0, va_up t 3 (fun _ => x), B) := by rw [fX2_room, if_pos c_2, ea]
          exact hret 60 _ _ _ _ (by rw [es]) (by rw [es]; exact hP) (by rw [es]; exact hD) hS rfl dX2_room_60
        · refine lv_aload_n hx hb dX2_room_34 rfl (lv_at hl 0 rfl) ?_
          refine x_rqV (As := []) (rest := []) ⟨hx, hb, hml, hown, hts⟩ (tX2_leastFrozen l D cI cZ cC ad n (va_up t 3 (fun _ => x)) v B FF FO hn hnb) (cwV 0 hts gX2_room_X2_leastFrozen rfl rfl rfl (by decide +kernel) ⟨Nat.le_of_ble_eq_true rfl, Nat.le_of_ble_eq_true rfl⟩) hK (x_recv (ci := 2) hK hP rfl (q0 := 0) rfl) hP rfl hl.1 rfl (Nat.le_of_ble_eq_true rfl) dX2_room_35 ⟨Nat.le_of_ble_eq_true rfl, Nat.le_of_ble_eq_true rfl⟩ (fun r_5 er_5 => ?_)
          have er_5 : r_5 = Option.map (fun j => ad (16 + j)) (lfC B n) := er_5
          subst er_5
          rcases hlf : lfC B n with _ | j
          · refine W.eq (g2 := F0 m 38 ls [.null]) rfl ?_
            refine lv_astoreN (lv' := [(4, .null), (0, .ref (ad 0)), (2, .int (t 3 0)), (3, .int (nI (cntC B n) - nI rr))]) hx hb dX2_room_38 hl (by decide) rfl (fun ls hl => ?_)
            refine lv_aloadN hx hb dX2_room_40 (lv_at hl 0 rfl) ?_
            refine lv_ifnonnullN hx hb dX2_room_42 ?_
            refine lv_goto (tgt := 59) hx hb dX2_room_45 (by decide) ?_
            refine lv_iload_n hx hb dX2_room_59 rfl (lv_at hl 2 rfl) ?_
            have ea : thC x n 17 C = B := by rw [← hfin, thC, if_neg (fun h => h.2 hlf)]
            have es : fX2_room n t C x = (t 3 0, va_up t 3 (fun _ => x), B) := by rw [fX2_room, if_pos c_2, ea]
            exact hret 60 _ _ _ _ (by rw [es]) (by rw [es]; exact hP) (by rw [es]; exact hD) hS rfl dX2_room_60
          · have hj : j < n := (lfC_lt B n j hlf).1
            refine W.eq (g2 := F0 m 38 ls [.ref (ad (16 + j))]) rfl ?_
            have hlfn : ¬ lfC B n = none := by rw [hlf]; exact fun h => by cases h
            have elf : lfD B n = j := by rw [lfD, hlf]; rfl
            refine lv_astore (lv' := [(4, .ref (ad (16 + j))), (0, .ref (ad 0)), (2, .int (t 3 0)), (3, .int (nI (cntC B n) - nI rr))]) hx hb dX2_room_38 hl (by decide) rfl (fun ls hl => ?_)
            refine lv_aload hx hb dX2_room_40 (lv_at hl 0 rfl) ?_
            refine lv_ifnonnull (tgt := 48) hx hb dX2_room_42 (by decide) ?_
            refine lv_aload hx hb dX2_room_48 (lv_at hl 0 rfl) ?_
            refine x_wvV (As := []) (rest := []) (ww := cW cI cC ad n (va_up t 3 (fun _ => x)) v B FF FO) ⟨hx, hb, hml, hown, hts⟩ (tX0_thaw l D cI cZ cC (ad (16 + j)) (ad (32 + j)) (ad (48 + j)) (B j) ) (cwV 0 hts gX2_room_X0_thaw rfl rfl rfl (by decide +kernel) ⟨Nat.le_of_ble_eq_true rfl, Nat.le_of_ble_eq_true rfl⟩) hK (x_recv (ci := 0) hK hP rfl (q0 := 10 + j) (cW_k hj)) hP hD hS hA [10 + j] (by simp [va_nd]) (by rw [List.map_cons, List.map_nil, cW_k hj]; rfl) rfl rfl hl.1 rfl (Nat.le_of_ble_eq_true rfl) dX2_room_50 ⟨Nat.le_of_ble_eq_true rfl, Nat.le_of_ble_eq_true rfl⟩ (fun H locs hP hD hS => ?_)
            have hP : va_P D vwCl (cW cI cC ad n (va_up t 3 (fun _ => x)) v (va_up B j (fX0_thaw (B j))) FF FO) H := by rw [← cW_setk hj]; exact hP
            have hD : va_D A (cW cI cC ad n (va_up t 3 (fun _ => x)) v (va_up B j (fX0_thaw (B j))) FF FO) := by rw [← cW_setk hj]; exact hD
            refine lv_iinc (v := (nI (cntC B n) - nI rr) + (-1)) (lv' := [(3, .int ((nI (cntC B n) - nI rr) + (-1))), (4, .ref (ad (16 + j))), (0, .ref (ad 0)), (2, .int (t 3 0))]) hx hb dX2_room_53 hl (k := 3) rfl rfl (by decide) rfl (fun ls hl => ?_)
            refine lv_goto (tgt := 30) hx hb dX2_room_56 (by decide) ?_
            have hgt : rr < cntC B n := Nat.lt_of_not_le (fun h => c_4 (by rw [Int32.le_iff_toInt_le, pk_sub_toInt (by omega) (by omega)]; simp; omega))
            have hjf := (lfC_lt B n j hlf).2.1
            have hcu := cntC_up B j (fX0_thaw (B j)) rfl hjf n hj
            have hov : nI (cntC (va_up B j (fX0_thaw (B j))) n) - nI rr = (nI (cntC B n) - nI rr) + (-1) := by rw [← hcu, pk_sub (show rr ≤ cntC (va_up B j (fX0_thaw (B j))) n by omega), pk_sub (show rr ≤ cntC (va_up B j (fX0_thaw (B j))) n + 1 by omega), show cntC (va_up B j (fX0_thaw (B j))) n + 1 - rr = (cntC (va_up B j (fX0_thaw (B j))) n - rr) + 1 by omega, pk_m1]
            exact ih (va_up B j (fX0_thaw (B j))) (by omega) (by rw [← hfin, thC, if_pos ⟨by rw [sum_cntC, err]; exact (nI_ltI (by omega) (by omega)).mpr hgt, hlfn⟩, elf]) H locs ls hP hD hS (by rw [hov]; exact lv_sub hl [2, 3, 0] rfl)
    exact LOOP 17 C (by have := cntC_le C n; omega) rfl _ _ ls (by exact hP) (by exact hD) hS (by rw [← sum_cntC, ← err]; exact lv_sub hl [2, 1, 0] rfl)
  · have c_2 := bI_eq c_2
    refine lv_bipush (v := (-2)) hx hb dX2_room_10 (by decide) ?_
    have es : fX2_room n t C x = (-2, t, C) := by rw [fX2_room, if_neg c_2]
    exact hret 12 _ _ _ _ (by rw [es]) (by rw [es]; exact hP) (by rw [es]; exact hD) hS rfl dX2_room_12
