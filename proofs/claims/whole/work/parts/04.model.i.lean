theorem shl1L {L : Nat} (h : L ≤ 10) : (1 : Int32) <<< (nI L &&& 31) - 1 = nI (2 ^ L - 1) := by
  rw [shl1 (by omega), show (1 : Int32) = nI 1 from rfl, pk_sub (Nat.two_pow_pos L)]

def fX3_plan (g : Nat → Nat → Int32) (n mm : Nat) : Int32 × (Nat → Nat → Int32) := if (nI (flF (exE g n mm) (g 30) (2 ^ mm)).1) = 0 then ((-1), va_up (va_up g 29 (fun _ => nI (flF (exE g n mm) (g 30) (2 ^ mm)).1)) 30 ((flF (exE g n mm) (g 30) (2 ^ mm)).2.2)) else (((plO (g 28) (flF (exE g n mm) (g 30) (2 ^ mm)).2.2 (flF (exE g n mm) (g 30) (2 ^ mm)).1 mm (g 31) (g 32) (2 ^ (flF (exE g n mm) (g 30) (2 ^ mm)).1)).1) (2 ^ (flF (exE g n mm) (g 30) (2 ^ mm)).1 - 1), va_up (va_up (va_up (va_up g 29 (fun _ => nI (flF (exE g n mm) (g 30) (2 ^ mm)).1)) 30 ((flF (exE g n mm) (g 30) (2 ^ mm)).2.2)) 31 ((plO (g 28) (flF (exE g n mm) (g 30) (2 ^ mm)).2.2 (flF (exE g n mm) (g 30) (2 ^ mm)).1 mm (g 31) (g 32) (2 ^ (flF (exE g n mm) (g 30) (2 ^ mm)).1)).1)) 32 ((plO (g 28) (flF (exE g n mm) (g 30) (2 ^ mm)).2.2 (flF (exE g n mm) (g 30) (2 ^ mm)).1 mm (g 31) (g 32) (2 ^ (flF (exE g n mm) (g 30) (2 ^ mm)).1)).2))
set_option maxHeartbeats 4000000 in
set_option maxRecDepth 100000 in
theorem tX3_plan (l : Launch) (D : va_G) (cI cZ cC : ClassId) (q : Nat → Nat) (o : Nat) (g : Nat → Nat → Int32) (n : Nat) (hn : g 0 0 = nI n) (hnb : n ≤ 16) (mm : Nat) (hm : g 26 0 = nI mm) (hmb : mm ≤ 10) : WrI l yX3_plan wsX3_plan (rmK 3) D cI cZ cC [.ref o] (mW cI cZ q o g) (mW cI cZ q o ((fX3_plan g n mm).2)) (fun ans => ans = (fX3_plan g n mm).1) := by
  refine WrI.of (cc := cX3_plan) (maxL := 1) (ret := .int) (by decide) rfl (Nat.le_of_ble_eq_true rfl) ?_
  intro p e s m args below meth c Q A ls hx hb hml hts hown hK hP hD hS hA hret hl
  have hl : lv_has ls 1 [(0, .ref o)] := hl
  have hinX3 : ∀ w ∈ u_ws RX3 TX3 33, w ∈ wsX3_plan := (fun w h => List.mem_cons_of_mem _ (List.mem_append_right _ h))
  refine lv_aload_n hx hb dX3_plan_0 rfl (lv_at hl 0 rfl) ?_
  refine x_wvW (As := []) (rest := []) ⟨hx, hb, hml, hown, hts⟩ (tX3_findLeast l D cI cZ cC q o g n hn hnb mm hm hmb) (cwV 0 hts gX3_plan_X3_findLeast rfl rfl rfl (by decide +kernel) ⟨Nat.le_of_ble_eq_true rfl, Nat.le_of_ble_eq_true rfl⟩) hK (x_recv (ci := 3) hK hP rfl (q0 := 0) rfl) hP hD hS hA rfl hl.1 rfl (Nat.le_of_ble_eq_true rfl) dX3_plan_1 ⟨Nat.le_of_ble_eq_true rfl, Nat.le_of_ble_eq_true rfl⟩ (fun H locs hP hD hS => ?_)
  refine lv_aload_n hx hb dX3_plan_4 rfl (lv_at hl 0 rfl) ?_
  refine va_get (D := D) (ci := 3) (v := .int (nI (flF (exE g n mm) (g 30) (2 ^ mm)).1)) (C := RX3) (T := TX3) (N := 33) hx hb hts hinX3 hown hK hP 0 rfl rfl 29 (by decide) (hts (.fieldLink RX3 147 "TroubleCodesModel" "listed" "I") (mem_at 1 rfl)) (fun _ h9 => h9) rfl dX3_plan_5 ?_
  refine lv_if_ne (tgt := 13) hx hb dX3_plan_8 (by decide) (fun c_1 => ?_) (fun c_1 => ?_)
  · refine lv_aload_n hx hb dX3_plan_13 rfl (lv_at hl 0 rfl) ?_
    refine x_wvW (As := []) (rest := []) ⟨hx, hb, hml, hown, hts⟩ (tX3_plans l D cI cZ cC q o (va_up (va_up g 29 (fun _ => nI (flF (exE g n mm) (g 30) (2 ^ mm)).1)) 30 ((flF (exE g n mm) (g 30) (2 ^ mm)).2.2)) n hn hnb mm hm hmb (flF (exE g n mm) (g 30) (2 ^ mm)).1 rfl (flF_b (exE g n mm) (g 30) (2 ^ mm)).1) (cwV 0 hts gX3_plan_X3_plans rfl rfl rfl (by decide +kernel) ⟨Nat.le_of_ble_eq_true rfl, Nat.le_of_ble_eq_true rfl⟩) hK (x_recv (ci := 3) hK hP rfl (q0 := 0) rfl) hP hD hS hA rfl hl.1 rfl (Nat.le_of_ble_eq_true rfl) dX3_plan_14 ⟨Nat.le_of_ble_eq_true rfl, Nat.le_of_ble_eq_true rfl⟩ (fun H locs hP hD hS => ?_)
    refine lv_aload_n hx hb dX3_plan_17 rfl (lv_at hl 0 rfl) ?_
    refine va_get (D := D) (ci := 3) (v := .ref (q 31)) (C := RX3) (T := TX3) (N := 33) hx hb hts hinX3 hown hK hP 0 rfl rfl 31 (by decide) (hts (.fieldLink RX3 87 "TroubleCodesModel" "sum" "[I") (mem_at 2 rfl)) (fun _ h9 => h9) rfl dX3_plan_18 ?_
    refine lv_iconst (v := 1) hx hb dX3_plan_21 (by decide) ?_
    refine lv_aload_n hx hb dX3_plan_22 rfl (lv_at hl 0 rfl) ?_
    refine va_get (D := D) (ci := 3) (v := .int (nI (flF (exE g n mm) (g 30) (2 ^ mm)).1)) (C := RX3) (T := TX3) (N := 33) hx hb hts hinX3 hown hK hP 0 rfl rfl 29 (by decide) (hts (.fieldLink RX3 147 "TroubleCodesModel" "listed" "I") (mem_at 1 rfl)) (fun _ h9 => h9) rfl dX3_plan_23 ?_
    refine lv_ishl hx hb dX3_plan_26 ?_
    refine lv_iconst (v := 1) hx hb dX3_plan_27 (by decide) ?_
    refine lv_isub hx hb dX3_plan_28 ?_
    have hLb := (flF_b (exE g n mm) (g 30) (2 ^ mm)).1
    have hpw := pow_le10 hLb
    rw [shl1L hLb]
    refine x_iald (k := (2 ^ (flF (exE g n mm) (g 30) (2 ^ mm)).1 - 1)) (f := (plO (g 28) (flF (exE g n mm) (g 30) (2 ^ mm)).2.2 (flF (exE g n mm) (g 30) (2 ^ mm)).1 mm (g 31) (g 32) (2 ^ (flF (exE g n mm) (g 30) (2 ^ mm)).1)).1) hx hb hK hP 25 rfl (by omega) (by decide) dX3_plan_29 ?_
    have es : fX3_plan g n mm = (((plO (g 28) (flF (exE g n mm) (g 30) (2 ^ mm)).2.2 (flF (exE g n mm) (g 30) (2 ^ mm)).1 mm (g 31) (g 32) (2 ^ (flF (exE g n mm) (g 30) (2 ^ mm)).1)).1) (2 ^ (flF (exE g n mm) (g 30) (2 ^ mm)).1 - 1), va_up (va_up (va_up (va_up g 29 (fun _ => nI (flF (exE g n mm) (g 30) (2 ^ mm)).1)) 30 ((flF (exE g n mm) (g 30) (2 ^ mm)).2.2)) 31 ((plO (g 28) (flF (exE g n mm) (g 30) (2 ^ mm)).2.2 (flF (exE g n mm) (g 30) (2 ^ mm)).1 mm (g 31) (g 32) (2 ^ (flF (exE g n mm) (g 30) (2 ^ mm)).1)).1)) 32 ((plO (g 28) (flF (exE g n mm) (g 30) (2 ^ mm)).2.2 (flF (exE g n mm) (g 30) (2 ^ mm)).1 mm (g 31) (g 32) (2 ^ (flF (exE g n mm) (g 30) (2 ^ mm)).1)).2)) := by rw [fX3_plan]; rw [if_neg c_1]
    exact hret 30 _ _ _ _ (by rw [es]) (by rw [es]; exact hP) (by rw [es]; exact hD) hS rfl dX3_plan_30
  · refine lv_iconst (v := (-1)) hx hb dX3_plan_11 (by decide) ?_
    have es : fX3_plan g n mm = ((-1), va_up (va_up g 29 (fun _ => nI (flF (exE g n mm) (g 30) (2 ^ mm)).1)) 30 ((flF (exE g n mm) (g 30) (2 ^ mm)).2.2)) := by rw [fX3_plan]; rw [if_pos c_1]
    exact hret 12 _ _ _ _ (by rw [es]) (by rw [es]; exact hP) (by rw [es]; exact hD) hS rfl dX3_plan_12

def fX3_test (g : Nat → Nat → Int32) (n mm : Nat) : Int32 × (Nat → Nat → Int32) := if (nI (flF (exE g n mm) (g 30) (2 ^ mm)).1) = 0 then ((-1), va_up (va_up g 29 (fun _ => nI (flF (exE g n mm) (g 30) (2 ^ mm)).1)) 30 ((flF (exE g n mm) (g 30) (2 ^ mm)).2.2)) else (((plO (g 28) (flF (exE g n mm) (g 30) (2 ^ mm)).2.2 (flF (exE g n mm) (g 30) (2 ^ mm)).1 mm (g 31) (g 32) (2 ^ (flF (exE g n mm) (g 30) (2 ^ mm)).1)).2) (2 ^ (flF (exE g n mm) (g 30) (2 ^ mm)).1 - 1), va_up (va_up (va_up (va_up g 29 (fun _ => nI (flF (exE g n mm) (g 30) (2 ^ mm)).1)) 30 ((flF (exE g n mm) (g 30) (2 ^ mm)).2.2)) 31 ((plO (g 28) (flF (exE g n mm) (g 30) (2 ^ mm)).2.2 (flF (exE g n mm) (g 30) (2 ^ mm)).1 mm (g 31) (g 32) (2 ^ (flF (exE g n mm) (g 30) (2 ^ mm)).1)).1)) 32 ((plO (g 28) (flF (exE g n mm) (g 30) (2 ^ mm)).2.2 (flF (exE g n mm) (g 30) (2 ^ mm)).1 mm (g 31) (g 32) (2 ^ (flF (exE g n mm) (g 30) (2 ^ mm)).1)).2))
set_option maxHeartbeats 4000000 in
set_option maxRecDepth 100000 in
theorem tX3_test (l : Launch) (D : va_G) (cI cZ cC : ClassId) (q : Nat → Nat) (o : Nat) (g : Nat → Nat → Int32) (n : Nat) (hn : g 0 0 = nI n) (hnb : n ≤ 16) (mm : Nat) (hm : g 26 0 = nI mm) (hmb : mm ≤ 10) : WrI l yX3_test wsX3_test (rmK 3) D cI cZ cC [.ref o] (mW cI cZ q o g) (mW cI cZ q o ((fX3_test g n mm).2)) (fun ans => ans = (fX3_test g n mm).1) := by
  refine WrI.of (cc := cX3_test) (maxL := 1) (ret := .int) (by decide) rfl (Nat.le_of_ble_eq_true rfl) ?_
  intro p e s m args below meth c Q A ls hx hb hml hts hown hK hP hD hS hA hret hl
  have hl : lv_has ls 1 [(0, .ref o)] := hl
  have hinX3 : ∀ w ∈ u_ws RX3 TX3 33, w ∈ wsX3_test := (fun w h => List.mem_cons_of_mem _ (List.mem_append_right _ h))
  refine lv_aload_n hx hb dX3_test_0 rfl (lv_at hl 0 rfl) ?_
  refine x_wvW (As := []) (rest := []) ⟨hx, hb, hml, hown, hts⟩ (tX3_findLeast l D cI cZ cC q o g n hn hnb mm hm hmb) (cwV 0 hts gX3_test_X3_findLeast rfl rfl rfl (by decide +kernel) ⟨Nat.le_of_ble_eq_true rfl, Nat.le_of_ble_eq_true rfl⟩) hK (x_recv (ci := 3) hK hP rfl (q0 := 0) rfl) hP hD hS hA rfl hl.1 rfl (Nat.le_of_ble_eq_true rfl) dX3_test_1 ⟨Nat.le_of_ble_eq_true rfl, Nat.le_of_ble_eq_true rfl⟩ (fun H locs hP hD hS => ?_)
  refine lv_aload_n hx hb dX3_test_4 rfl (lv_at hl 0 rfl) ?_
  refine va_get (D := D) (ci := 3) (v := .int (nI (flF (exE g n mm) (g 30) (2 ^ mm)).1)) (C := RX3) (T := TX3) (N := 33) hx hb hts hinX3 hown hK hP 0 rfl rfl 29 (by decide) (hts (.fieldLink RX3 147 "TroubleCodesModel" "listed" "I") (mem_at 1 rfl)) (fun _ h9 => h9) rfl dX3_test_5 ?_
  refine lv_if_ne (tgt := 13) hx hb dX3_test_8 (by decide) (fun c_1 => ?_) (fun c_1 => ?_)
  · refine lv_aload_n hx hb dX3_test_13 rfl (lv_at hl 0 rfl) ?_
    refine x_wvW (As := []) (rest := []) ⟨hx, hb, hml, hown, hts⟩ (tX3_plans l D cI cZ cC q o (va_up (va_up g 29 (fun _ => nI (flF (exE g n mm) (g 30) (2 ^ mm)).1)) 30 ((flF (exE g n mm) (g 30) (2 ^ mm)).2.2)) n hn hnb mm hm hmb (flF (exE g n mm) (g 30) (2 ^ mm)).1 rfl (flF_b (exE g n mm) (g 30) (2 ^ mm)).1) (cwV 0 hts gX3_test_X3_plans rfl rfl rfl (by decide +kernel) ⟨Nat.le_of_ble_eq_true rfl, Nat.le_of_ble_eq_true rfl⟩) hK (x_recv (ci := 3) hK hP rfl (q0 := 0) rfl) hP hD hS hA rfl hl.1 rfl (Nat.le_of_ble_eq_true rfl) dX3_test_14 ⟨Nat.le_of_ble_eq_true rfl, Nat.le_of_ble_eq_true rfl⟩ (fun H locs hP hD hS => ?_)
    refine lv_aload_n hx hb dX3_test_17 rfl (lv_at hl 0 rfl) ?_
    refine va_get (D := D) (ci := 3) (v := .ref (q 32)) (C := RX3) (T := TX3) (N := 33) hx hb hts hinX3 hown hK hP 0 rfl rfl 32 (by decide) (hts (.fieldLink RX3 90 "TroubleCodesModel" "first" "[I") (mem_at 2 rfl)) (fun _ h9 => h9) rfl dX3_test_18 ?_
    refine lv_iconst (v := 1) hx hb dX3_test_21 (by decide) ?_
    refine lv_aload_n hx hb dX3_test_22 rfl (lv_at hl 0 rfl) ?_
    refine va_get (D := D) (ci := 3) (v := .int (nI (flF (exE g n mm) (g 30) (2 ^ mm)).1)) (C := RX3) (T := TX3) (N := 33) hx hb hts hinX3 hown hK hP 0 rfl rfl 29 (by decide) (hts (.fieldLink RX3 147 "TroubleCodesModel" "listed" "I") (mem_at 1 rfl)) (fun _ h9 => h9) rfl dX3_test_23 ?_
    refine lv_ishl hx hb dX3_test_26 ?_
    refine lv_iconst (v := 1) hx hb dX3_test_27 (by decide) ?_
    refine lv_isub hx hb dX3_test_28 ?_
    have hLb := (flF_b (exE g n mm) (g 30) (2 ^ mm)).1
    have hpw := pow_le10 hLb
    rw [shl1L hLb]
    refine x_iald (k := (2 ^ (flF (exE g n mm) (g 30) (2 ^ mm)).1 - 1)) (f := (plO (g 28) (flF (exE g n mm) (g 30) (2 ^ mm)).2.2 (flF (exE g n mm) (g 30) (2 ^ mm)).1 mm (g 31) (g 32) (2 ^ (flF (exE g n mm) (g 30) (2 ^ mm)).1)).2) hx hb hK hP 26 rfl (by omega) (by decide) dX3_test_29 ?_
    have es : fX3_test g n mm = (((plO (g 28) (flF (exE g n mm) (g 30) (2 ^ mm)).2.2 (flF (exE g n mm) (g 30) (2 ^ mm)).1 mm (g 31) (g 32) (2 ^ (flF (exE g n mm) (g 30) (2 ^ mm)).1)).2) (2 ^ (flF (exE g n mm) (g 30) (2 ^ mm)).1 - 1), va_up (va_up (va_up (va_up g 29 (fun _ => nI (flF (exE g n mm) (g 30) (2 ^ mm)).1)) 30 ((flF (exE g n mm) (g 30) (2 ^ mm)).2.2)) 31 ((plO (g 28) (flF (exE g n mm) (g 30) (2 ^ mm)).2.2 (flF (exE g n mm) (g 30) (2 ^ mm)).1 mm (g 31) (g 32) (2 ^ (flF (exE g n mm) (g 30) (2 ^ mm)).1)).1)) 32 ((plO (g 28) (flF (exE g n mm) (g 30) (2 ^ mm)).2.2 (flF (exE g n mm) (g 30) (2 ^ mm)).1 mm (g 31) (g 32) (2 ^ (flF (exE g n mm) (g 30) (2 ^ mm)).1)).2)) := by rw [fX3_test]; rw [if_neg c_1]
    exact hret 30 _ _ _ _ (by rw [es]) (by rw [es]; exact hP) (by rw [es]; exact hD) hS rfl dX3_test_30
  · refine lv_iconst (v := (-1)) hx hb dX3_test_11 (by decide) ?_
    have es : fX3_test g n mm = ((-1), va_up (va_up g 29 (fun _ => nI (flF (exE g n mm) (g 30) (2 ^ mm)).1)) 30 ((flF (exE g n mm) (g 30) (2 ^ mm)).2.2)) := by rw [fX3_test]; rw [if_pos c_1]
    exact hret 12 _ _ _ _ (by rw [es]) (by rw [es]; exact hP) (by rw [es]; exact hD) hS rfl dX3_test_12

def dgC (g : Nat → Nat → Int32) (n : Nat) : Nat → Int64
  | 0 => 211
  | i + 1 => 31 * dgC g n i + (countF g n (nI i)).toInt64
def dgA (g : Nat → Nat → Int32) (k : Nat) (h : Int64) : Nat → Int64
  | 0 => h
  | i + 1 => 31 * dgA g k h i + (aboutF g k (nI i)).toInt64
def dgZ (g : Nat → Nat → Int32) (k : Nat) (h : Int64) : Nat → Int64
  | 0 => h
  | i + 1 => 31 * dgZ g k h i + (fX3_frozen g (nI k) (nI i)).toInt64
def dgK (g : Nat → Nat → Int32) (h : Int64) : Nat → Int64
  | 0 => h
  | k + 1 => 31 * dgZ g k (31 * dgA g k (dgK g h k) 8 + (fX3_frozenAt g (nI k)).toInt64) 4 + (g 15 k).toInt64
def dgF (g : Nat → Nat → Int32) (h : Int64) : Nat → Int64
  | 0 => h
  | i + 1 => 31 * dgF g h i + (g 19 i).toInt64
def dgM (g : Nat → Nat → Int32) (h : Int64) : Nat → Int64
  | 0 => h
  | i + 1 => 31 * (31 * dgM g h i + (g 27 i).toInt64) + (g 28 i).toInt64
def digF (g : Nat → Nat → Int32) (n mm : Nat) : Int64 := dgM g (dgF g (dgK g (dgC g n 8) n) 4) mm

set_option maxHeartbeats 4000000 in
set_option maxRecDepth 100000 in
theorem tX3_digest (l : Launch) (D : va_G) (cI cZ cC : ClassId) (q : Nat → Nat) (o : Nat) (g : Nat → Nat → Int32) (n : Nat) (hn : g 0 0 = nI n) (hnb : n ≤ 16) (mm : Nat) (hm : g 26 0 = nI mm) (hmb : mm ≤ 10) (hfo : ∀ k, k < n → g 1 k = 2 → ∃ f, f < 16 ∧ g 2 k = nI f) : RdL l yX3_digest wsX3_digest (rmK 3) D cI cZ cC [.ref o] (fun H => va_P D vwCl (mW cI cZ q o g) H) (fun ans => ans = digF g n mm) := by
  refine RdL.of (cc := cX3_digest) (maxL := 5) (by decide) rfl (Nat.le_of_ble_eq_true rfl) ?_
  intro p e s m args below meth c Q ls hx hb hml hts hown hK hP hret hl
  have hl : lv_has ls 5 [(0, .ref o)] := hl
  have hP : va_P D vwCl (mW cI cZ q o g) s.heap := hP
  have hinX3 : ∀ w ∈ u_ws RX3 TX3 33, w ∈ wsX3_digest := (fun w h => List.mem_cons_of_mem _ (List.mem_append_right _ h))
  refine lv_ldc2 (v := 211) hx hb hown (hts (.constantLong RX3 166 (211)) (mem_at 1 rfl)) dX3_digest_0 ?_
  refine lv_lstore_n (lv' := [(1, .long 211), (0, .ref o)]) hx hb dX3_digest_3 rfl hl (by decide) rfl (fun ls hl => ?_)
  refine lv_iconst (v := 0) hx hb dX3_digest_4 (by decide) ?_
  refine lv_istore_n (lv' := [(3, .int 0), (1, .long 211), (0, .ref o)]) hx hb dX3_digest_5 rfl hl (by decide) rfl (fun ls hl => ?_)
  have LOOP_1 : ∀ (fu i : Nat), i ≤ 8 → 8 - i < fu → ∀ (ls : Array Slot), lv_has ls 5 [(0, .ref o), (1, .long (dgC g n i)), (3, .int (nI i))] → W p l e (rmK 3) s m args below meth c s.heap [] 0 0 Q (F0 m 6 ls []) := by
    intro fu
    induction fu with
    | zero => intro i h1 h2; exact absurd h2 (Nat.not_lt_zero _)
    | succ fu ih =>
      intro i hkn hfu  ls hl
      refine lv_iload_n hx hb dX3_digest_6 rfl (lv_at hl 2 rfl) ?_
      refine lv_bipush (v := 8) hx hb dX3_digest_7 (by decide) ?_
      refine lv_icmp_ge (tgt := 31) hx hb dX3_digest_9 (by decide) (fun c_2 => ?_) (fun c_2 => ?_)
      · have ekn : 8 = i := Nat.le_antisymm (kx_ge (x := 8) (n := 8) rfl (by omega) (by omega) c_2) hkn
        subst ekn
        refine lv_iconst (v := 0) hx hb dX3_digest_31 (by decide) ?_
        refine lv_istore_n (lv' := [(3, .int 0), (0, .ref o), (1, .long (dgC g n 8))]) hx hb dX3_digest_32 rfl hl (by decide) rfl (fun ls hl => ?_)
        have LOOP_3 : ∀ (fu k : Nat), k ≤ n → n - k < fu → ∀ (ls : Array Slot), lv_has ls 5 [(0, .ref o), (1, .long (dgK g (dgC g n 8) k)), (3, .int (nI k))] → W p l e (rmK 3) s m args below meth c s.heap [] 0 0 Q (F0 m 33 ls []) := by
          intro fu
          induction fu with
          | zero => intro k h1 h2; exact absurd h2 (Nat.not_lt_zero _)
          | succ fu ih =>
            intro k hkn hfu  ls hl
            refine lv_iload_n hx hb dX3_digest_33 rfl (lv_at hl 2 rfl) ?_
            refine lv_aload_n hx hb dX3_digest_34 rfl (lv_at hl 0 rfl) ?_
            refine va_get (D := D) (ci := 3) (v := .int (g 0 0)) (C := RX3) (T := TX3) (N := 33) hx hb hts hinX3 hown hK hP 0 rfl rfl 0 (by decide) (hts (.fieldLink RX3 93 "TroubleCodesModel" "checks" "I") (mem_at 3 rfl)) (fun _ h9 => h9) rfl dX3_digest_35 ?_
            refine lv_icmp_ge (tgt := 135) hx hb dX3_digest_38 (by decide) (fun c_4 => ?_) (fun c_4 => ?_)
            · have ekn : n = k := Nat.le_antisymm (kx_ge hn (by omega) (by omega) c_4) hkn
              subst ekn
              refine lv_iconst (v := 0) hx hb dX3_digest_135 (by decide) ?_
              refine lv_istore_n (lv' := [(3, .int 0), (0, .ref o), (1, .long (dgK g (dgC g n 8) n))]) hx hb dX3_digest_136 rfl hl (by decide) rfl (fun ls hl => ?_)
              have LOOP_5 : ∀ (fu i : Nat), i ≤ 4 → 4 - i < fu → ∀ (ls : Array Slot), lv_has ls 5 [(0, .ref o), (1, .long (dgF g (dgK g (dgC g n 8) n) i)), (3, .int (nI i))] → W p l e (rmK 3) s m args below meth c s.heap [] 0 0 Q (F0 m 137 ls []) := by
                intro fu
                induction fu with
                | zero => intro i h1 h2; exact absurd h2 (Nat.not_lt_zero _)
                | succ fu ih =>
                  intro i hkn hfu  ls hl
                  refine lv_iload_n hx hb dX3_digest_137 rfl (lv_at hl 2 rfl) ?_
                  refine lv_iconst (v := 4) hx hb dX3_digest_138 (by decide) ?_
                  refine lv_icmp_ge (tgt := 162) hx hb dX3_digest_139 (by decide) (fun c_6 => ?_) (fun c_6 => ?_)
                  · have ekn : 4 = i := Nat.le_antisymm (kx_ge (x := 4) (n := 4) rfl (by omega) (by omega) c_6) hkn
                    subst ekn
                    refine lv_iconst (v := 0) hx hb dX3_digest_162 (by decide) ?_
                    refine lv_istore_n (lv' := [(3, .int 0), (0, .ref o), (1, .long (dgF g (dgK g (dgC g n 8) n) 4))]) hx hb dX3_digest_163 rfl hl (by decide) rfl (fun ls hl => ?_)
                    have LOOP_7 : ∀ (fu i : Nat), i ≤ mm → mm - i < fu → ∀ (ls : Array Slot), lv_has ls 5 [(0, .ref o), (1, .long (dgM g (dgF g (dgK g (dgC g n 8) n) 4) i)), (3, .int (nI i))] → W p l e (rmK 3) s m args below meth c s.heap [] 0 0 Q (F0 m 164 ls []) := by
                      intro fu
                      induction fu with
                      | zero => intro i h1 h2; exact absurd h2 (Nat.not_lt_zero _)
                      | succ fu ih =>
                        intro i hkn hfu  ls hl
                        refine lv_iload_n hx hb dX3_digest_164 rfl (lv_at hl 2 rfl) ?_
                        refine lv_aload_n hx hb dX3_digest_165 rfl (lv_at hl 0 rfl) ?_
                        refine va_get (D := D) (ci := 3) (v := .int (g 26 0)) (C := RX3) (T := TX3) (N := 33) hx hb hts hinX3 hown hK hP 0 rfl rfl 26 (by decide) (hts (.fieldLink RX3 141 "TroubleCodesModel" "causes" "I") (mem_at 6 rfl)) (fun _ h9 => h9) rfl dX3_digest_166 ?_
                        refine lv_icmp_ge (tgt := 204) hx hb dX3_digest_169 (by decide) (fun c_8 => ?_) (fun c_8 => ?_)
                        · have ekn : mm = i := Nat.le_antisymm (kx_ge hm (by omega) (by omega) c_8) hkn
                          subst ekn
                          refine lv_lload_n hx hb dX3_digest_204 rfl (lv_at hl 1 rfl) ?_
                          exact hret 205 _ _ rfl dX3_digest_205
                        · have him : i < mm := kx_lt hm (by omega) (by omega) c_8
                          refine lv_ldc2 (v := 31) hx hb hown (hts (.constantLong RX3 168 (31)) (mem_at 2 rfl)) dX3_digest_172 ?_
                          refine lv_ldc2 (v := 31) hx hb hown (hts (.constantLong RX3 168 (31)) (mem_at 2 rfl)) dX3_digest_175 ?_
                          refine lv_lload_n hx hb dX3_digest_178 rfl (lv_at hl 1 rfl) ?_
                          refine lv_lmul hx hb dX3_digest_179 ?_
                          refine lv_aload_n hx hb dX3_digest_180 rfl (lv_at hl 0 rfl) ?_
                          refine va_get (D := D) (ci := 3) (v := .ref (q 27)) (C := RX3) (T := TX3) (N := 33) hx hb hts hinX3 hown hK hP 0 rfl rfl 27 (by decide) (hts (.fieldLink RX3 78 "TroubleCodesModel" "makes" "[I") (mem_at 7 rfl)) (fun _ h9 => h9) rfl dX3_digest_181 ?_
                          refine lv_iload_n hx hb dX3_digest_184 rfl (lv_at hl 2 rfl) ?_
                          refine x_iald (k := i) (f := g 27) hx hb hK hP 22 rfl (by omega) (by decide) dX3_digest_185 ?_
                          refine lv_i2l (v := (g 27 i).toInt64) hx hb dX3_digest_186 rfl ?_
                          refine lv_ladd hx hb dX3_digest_187 ?_
                          refine lv_lmul hx hb dX3_digest_188 ?_
                          refine lv_aload_n hx hb dX3_digest_189 rfl (lv_at hl 0 rfl) ?_
                          refine va_get (D := D) (ci := 3) (v := .ref (q 28)) (C := RX3) (T := TX3) (N := 33) hx hb hts hinX3 hown hK hP 0 rfl rfl 28 (by decide) (hts (.fieldLink RX3 81 "TroubleCodesModel" "price" "[I") (mem_at 8 rfl)) (fun _ h9 => h9) rfl dX3_digest_190 ?_
                          refine lv_iload_n hx hb dX3_digest_193 rfl (lv_at hl 2 rfl) ?_
                          refine x_iald (k := i) (f := g 28) hx hb hK hP 23 rfl (by omega) (by decide) dX3_digest_194 ?_
                          refine lv_i2l (v := (g 28 i).toInt64) hx hb dX3_digest_195 rfl ?_
                          refine lv_ladd hx hb dX3_digest_196 ?_
                          refine lv_lstore_n (lv' := [(1, .long ((31 * ((31 * (dgM g (dgF g (dgK g (dgC g n 8) n) 4) i)) + ((g 27 i).toInt64))) + ((g 28 i).toInt64))), (0, .ref o), (3, .int (nI i))]) hx hb dX3_digest_197 rfl hl (by decide) rfl (fun ls hl => ?_)
                          refine lv_iinc (v := nI (i + 1)) (lv' := [(3, .int (nI (i + 1))), (1, .long ((31 * ((31 * (dgM g (dgF g (dgK g (dgC g n 8) n) 4) i)) + ((g 27 i).toInt64))) + ((g 28 i).toInt64))), (0, .ref o)]) hx hb dX3_digest_198 hl (k := 2) rfl (nI_1 _) (by decide) rfl (fun ls hl => ?_)
                          refine lv_goto (tgt := 164) hx hb dX3_digest_201 (by decide) ?_
                          have q_9 : (dgM g (dgF g (dgK g (dgC g n 8) n) 4) (i + 1) : Int64) = (31 * ((31 * (dgM g (dgF g (dgK g (dgC g n 8) n) 4) i)) + ((g 27 i).toInt64))) + ((g 28 i).toInt64) := by rfl
                          exact ih (i + 1) (by omega) (by omega) ls (by rw [q_9]; exact lv_sub hl [2, 1, 0] rfl)
                    have q_10 : (dgM g (dgF g (dgK g (dgC g n 8) n) 4) 0 : Int64) = dgF g (dgK g (dgC g n 8) n) 4 := by rfl
                    have q_11 : (nI 0 : Int32) = 0 := by rfl
                    exact LOOP_7 (mm - 0 + 1) 0 (Nat.zero_le _) (Nat.lt_succ_self _) ls (by rw [q_10, q_11]; exact lv_sub hl [1, 2, 0] rfl)
                  · have hi4 : i < 4 := kx_lt (x := 4) (n := 4) rfl (by omega) (by omega) c_6
                    refine lv_ldc2 (v := 31) hx hb hown (hts (.constantLong RX3 168 (31)) (mem_at 2 rfl)) dX3_digest_142 ?_
                    refine lv_lload_n hx hb dX3_digest_145 rfl (lv_at hl 1 rfl) ?_
                    refine lv_lmul hx hb dX3_digest_146 ?_
                    refine lv_aload_n hx hb dX3_digest_147 rfl (lv_at hl 0 rfl) ?_
                    refine va_get (D := D) (ci := 3) (v := .ref (q 19)) (C := RX3) (T := TX3) (N := 33) hx hb hts hinX3 hown hK hP 0 rfl rfl 19 (by decide) (hts (.fieldLink RX3 59 "TroubleCodesModel" "fact" "[I") (mem_at 5 rfl)) (fun _ h9 => h9) rfl dX3_digest_148 ?_
                    refine lv_iload_n hx hb dX3_digest_151 rfl (lv_at hl 2 rfl) ?_
                    refine x_iald (k := i) (f := g 19) hx hb hK hP 17 rfl (by omega) (by decide) dX3_digest_152 ?_
                    refine lv_i2l (v := (g 19 i).toInt64) hx hb dX3_digest_153 rfl ?_
                    refine lv_ladd hx hb dX3_digest_154 ?_
                    refine lv_lstore_n (lv' := [(1, .long ((31 * (dgF g (dgK g (dgC g n 8) n) i)) + ((g 19 i).toInt64))), (0, .ref o), (3, .int (nI i))]) hx hb dX3_digest_155 rfl hl (by decide) rfl (fun ls hl => ?_)
                    refine lv_iinc (v := nI (i + 1)) (lv' := [(3, .int (nI (i + 1))), (1, .long ((31 * (dgF g (dgK g (dgC g n 8) n) i)) + ((g 19 i).toInt64))), (0, .ref o)]) hx hb dX3_digest_156 hl (k := 2) rfl (nI_1 _) (by decide) rfl (fun ls hl => ?_)
                    refine lv_goto (tgt := 137) hx hb dX3_digest_159 (by decide) ?_
                    have q_12 : (dgF g (dgK g (dgC g n 8) n) (i + 1) : Int64) = (31 * (dgF g (dgK g (dgC g n 8) n) i)) + ((g 19 i).toInt64) := by rfl
                    exact ih (i + 1) (by omega) (by omega) ls (by rw [q_12]; exact lv_sub hl [2, 1, 0] rfl)
              have q_13 : (dgF g (dgK g (dgC g n 8) n) 0 : Int64) = dgK g (dgC g n 8) n := by rfl
              have q_14 : (nI 0 : Int32) = 0 := by rfl
              exact LOOP_5 (4 - 0 + 1) 0 (Nat.zero_le _) (Nat.lt_succ_self _) ls (by rw [q_13, q_14]; exact lv_sub hl [1, 2, 0] rfl)
            · have hkl : k < n := kx_lt hn (by omega) (by omega) c_4
              refine lv_iconst (v := 0) hx hb dX3_digest_41 (by decide) ?_
              refine lv_istore (lv' := [(4, .int 0), (0, .ref o), (1, .long (dgK g (dgC g n 8) k)), (3, .int (nI k))]) hx hb dX3_digest_42 hl (by decide) rfl (fun ls hl => ?_)
              have LOOP_15 : ∀ (fu i : Nat), i ≤ 8 → 8 - i < fu → ∀ (ls : Array Slot), lv_has ls 5 [(0, .ref o), (1, .long (dgA g k (dgK g (dgC g n 8) k) i)), (3, .int (nI k)), (4, .int (nI i))] → W p l e (rmK 3) s m args below meth c s.heap [] 0 0 Q (F0 m 44 ls []) := by
                intro fu
                induction fu with
                | zero => intro i h1 h2; exact absurd h2 (Nat.not_lt_zero _)
                | succ fu ih2 =>
                  intro i hkn2 hfu2  ls hl
                  refine lv_iload hx hb dX3_digest_44 (lv_at hl 3 rfl) ?_
                  refine lv_bipush (v := 8) hx hb dX3_digest_46 (by decide) ?_
                  refine lv_icmp_ge (tgt := 72) hx hb dX3_digest_48 (by decide) (fun c_16 => ?_) (fun c_16 => ?_)
                  · have ekn : 8 = i := Nat.le_antisymm (kx_ge (x := 8) (n := 8) rfl (by omega) (by omega) c_16) hkn2
                    subst ekn
                    refine lv_ldc2 (v := 31) hx hb hown (hts (.constantLong RX3 168 (31)) (mem_at 2 rfl)) dX3_digest_72 ?_
                    refine lv_lload_n hx hb dX3_digest_75 rfl (lv_at hl 1 rfl) ?_
                    refine lv_lmul hx hb dX3_digest_76 ?_
                    refine lv_aload_n hx hb dX3_digest_77 rfl (lv_at hl 0 rfl) ?_
                    refine lv_iload_n hx hb dX3_digest_78 rfl (lv_at hl 2 rfl) ?_
                    refine x_rdV (As := [.int (nI k)]) (rest := [.long (31 * (dgA g k (dgK g (dgC g n 8) k) 8))]) ⟨hx, hb, hml, hown, hts⟩ (tX3_frozenAt l D cI cZ cC q o g n hn hnb (nI k)) (cwV 1 hts gX3_digest_X3_frozenAt rfl rfl rfl (by decide +kernel) ⟨Nat.le_of_ble_eq_true rfl, Nat.le_of_ble_eq_true rfl⟩) hK (x_recv (ci := 3) hK hP rfl (q0 := 0) rfl) hP rfl hl.1 rfl (Nat.le_of_ble_eq_true rfl) dX3_digest_79 ⟨Nat.le_of_ble_eq_true rfl, Nat.le_of_ble_eq_true rfl⟩ (fun r_17 er_17 => ?_)
                    have er_17 : r_17 = fX3_frozenAt g (nI k) := er_17
                    subst er_17
                    refine lv_i2l (v := (fX3_frozenAt g (nI k)).toInt64) hx hb dX3_digest_82 rfl ?_
                    refine lv_ladd hx hb dX3_digest_83 ?_
                    refine lv_lstore_n (lv' := [(1, .long ((31 * (dgA g k (dgK g (dgC g n 8) k) 8)) + ((fX3_frozenAt g (nI k)).toInt64))), (0, .ref o), (3, .int (nI k)), (4, .int (nI 8))]) hx hb dX3_digest_84 rfl hl (by decide) rfl (fun ls hl => ?_)
                    refine lv_iconst (v := 0) hx hb dX3_digest_85 (by decide) ?_
                    refine lv_istore (lv' := [(4, .int 0), (1, .long ((31 * (dgA g k (dgK g (dgC g n 8) k) 8)) + ((fX3_frozenAt g (nI k)).toInt64))), (0, .ref o), (3, .int (nI k))]) hx hb dX3_digest_86 hl (by decide) rfl (fun ls hl => ?_)
                    have LOOP_18 : ∀ (fu i : Nat), i ≤ 4 → 4 - i < fu → ∀ (ls : Array Slot), lv_has ls 5 [(0, .ref o), (1, .long (dgZ g k (31 * dgA g k (dgK g (dgC g n 8) k) 8 + (fX3_frozenAt g (nI k)).toInt64) i)), (3, .int (nI k)), (4, .int (nI i))] → W p l e (rmK 3) s m args below meth c s.heap [] 0 0 Q (F0 m 88 ls []) := by
                      intro fu
                      induction fu with
                      | zero => intro i h1 h2; exact absurd h2 (Nat.not_lt_zero _)
                      | succ fu ih2 =>
                        intro i hkn2 hfu2  ls hl
                        refine lv_iload hx hb dX3_digest_88 (lv_at hl 3 rfl) ?_
                        refine lv_iconst (v := 4) hx hb dX3_digest_90 (by decide) ?_
                        refine lv_icmp_ge (tgt := 115) hx hb dX3_digest_91 (by decide) (fun c_19 => ?_) (fun c_19 => ?_)
                        · have ekn : 4 = i := Nat.le_antisymm (kx_ge (x := 4) (n := 4) rfl (by omega) (by omega) c_19) hkn2
                          subst ekn
                          refine lv_ldc2 (v := 31) hx hb hown (hts (.constantLong RX3 168 (31)) (mem_at 2 rfl)) dX3_digest_115 ?_
                          refine lv_lload_n hx hb dX3_digest_118 rfl (lv_at hl 1 rfl) ?_
                          refine lv_lmul hx hb dX3_digest_119 ?_
                          refine lv_aload_n hx hb dX3_digest_120 rfl (lv_at hl 0 rfl) ?_
                          refine va_get (D := D) (ci := 3) (v := .ref (q 15)) (C := RX3) (T := TX3) (N := 33) hx hb hts hinX3 hown hK hP 0 rfl rfl 15 (by decide) (hts (.fieldLink RX3 53 "TroubleCodesModel" "sets" "[I") (mem_at 4 rfl)) (fun _ h9 => h9) rfl dX3_digest_121 ?_
                          refine lv_iload_n hx hb dX3_digest_124 rfl (lv_at hl 2 rfl) ?_
                          refine x_iald (k := k) (f := g 15) hx hb hK hP 15 rfl (by omega) (by decide) dX3_digest_125 ?_
                          refine lv_i2l (v := (g 15 k).toInt64) hx hb dX3_digest_126 rfl ?_
                          refine lv_ladd hx hb dX3_digest_127 ?_
                          refine lv_lstore_n (lv' := [(1, .long ((31 * (dgZ g k (31 * dgA g k (dgK g (dgC g n 8) k) 8 + (fX3_frozenAt g (nI k)).toInt64) 4)) + ((g 15 k).toInt64))), (0, .ref o), (3, .int (nI k)), (4, .int (nI 4))]) hx hb dX3_digest_128 rfl hl (by decide) rfl (fun ls hl => ?_)
                          refine lv_iinc (v := nI (k + 1)) (lv' := [(3, .int (nI (k + 1))), (1, .long ((31 * (dgZ g k (31 * dgA g k (dgK g (dgC g n 8) k) 8 + (fX3_frozenAt g (nI k)).toInt64) 4)) + ((g 15 k).toInt64))), (0, .ref o), (4, .int (nI 4))]) hx hb dX3_digest_129 hl (k := 2) rfl (nI_1 _) (by decide) rfl (fun ls hl => ?_)
                          refine lv_goto (tgt := 33) hx hb dX3_digest_132 (by decide) ?_
                          have q_20 : (dgK g (dgC g n 8) (k + 1) : Int64) = (31 * (dgZ g k (31 * dgA g k (dgK g (dgC g n 8) k) 8 + (fX3_frozenAt g (nI k)).toInt64) 4)) + ((g 15 k).toInt64) := by rfl
                          exact ih (k + 1) (by omega) (by omega) ls (by rw [q_20]; exact lv_sub hl [2, 1, 0] rfl)
                        · have hi4 : i < 4 := kx_lt (x := 4) (n := 4) rfl (by omega) (by omega) c_19
                          refine lv_ldc2 (v := 31) hx hb hown (hts (.constantLong RX3 168 (31)) (mem_at 2 rfl)) dX3_digest_94 ?_
                          refine lv_lload_n hx hb dX3_digest_97 rfl (lv_at hl 1 rfl) ?_
                          refine lv_lmul hx hb dX3_digest_98 ?_
                          refine lv_aload_n hx hb dX3_digest_99 rfl (lv_at hl 0 rfl) ?_
                          refine lv_iload_n hx hb dX3_digest_100 rfl (lv_at hl 2 rfl) ?_
                          refine lv_iload hx hb dX3_digest_101 (lv_at hl 3 rfl) ?_
                          refine x_rdV (As := [.int (nI k), .int (nI i)]) (rest := [.long (31 * (dgZ g k (31 * dgA g k (dgK g (dgC g n 8) k) 8 + (fX3_frozenAt g (nI k)).toInt64) i))]) ⟨hx, hb, hml, hown, hts⟩ (tX3_frozen l D cI cZ cC q o g n hn hnb (nI k) (nI i)) (cwV 2 hts gX3_digest_X3_frozen rfl rfl rfl (by decide +kernel) ⟨Nat.le_of_ble_eq_true rfl, Nat.le_of_ble_eq_true rfl⟩) hK (x_recv (ci := 3) hK hP rfl (q0 := 0) rfl) hP rfl hl.1 rfl (Nat.le_of_ble_eq_true rfl) dX3_digest_103 ⟨Nat.le_of_ble_eq_true rfl, Nat.le_of_ble_eq_true rfl⟩ (fun r_21 er_21 => ?_)
                          have er_21 : r_21 = fX3_frozen g (nI k) (nI i) := er_21
                          subst er_21
                          refine lv_i2l (v := (fX3_frozen g (nI k) (nI i)).toInt64) hx hb dX3_digest_106 rfl ?_
                          refine lv_ladd hx hb dX3_digest_107 ?_
                          refine lv_lstore_n (lv' := [(1, .long ((31 * (dgZ g k (31 * dgA g k (dgK g (dgC g n 8) k) 8 + (fX3_frozenAt g (nI k)).toInt64) i)) + ((fX3_frozen g (nI k) (nI i)).toInt64))), (0, .ref o), (3, .int (nI k)), (4, .int (nI i))]) hx hb dX3_digest_108 rfl hl (by decide) rfl (fun ls hl => ?_)
                          refine lv_iinc (v := nI (i + 1)) (lv' := [(4, .int (nI (i + 1))), (1, .long ((31 * (dgZ g k (31 * dgA g k (dgK g (dgC g n 8) k) 8 + (fX3_frozenAt g (nI k)).toInt64) i)) + ((fX3_frozen g (nI k) (nI i)).toInt64))), (0, .ref o), (3, .int (nI k))]) hx hb dX3_digest_109 hl (k := 3) rfl (nI_1 _) (by decide) rfl (fun ls hl => ?_)
                          refine lv_goto (tgt := 88) hx hb dX3_digest_112 (by decide) ?_
                          have q_22 : (dgZ g k (31 * dgA g k (dgK g (dgC g n 8) k) 8 + (fX3_frozenAt g (nI k)).toInt64) (i + 1) : Int64) = (31 * (dgZ g k (31 * dgA g k (dgK g (dgC g n 8) k) 8 + (fX3_frozenAt g (nI k)).toInt64) i)) + ((fX3_frozen g (nI k) (nI i)).toInt64) := by rfl
                          exact ih2 (i + 1) (by omega) (by omega) ls (by rw [q_22]; exact lv_sub hl [2, 1, 3, 0] rfl)
                    have q_23 : (dgZ g k (31 * dgA g k (dgK g (dgC g n 8) k) 8 + (fX3_frozenAt g (nI k)).toInt64) 0 : Int64) = (31 * (dgA g k (dgK g (dgC g n 8) k) 8)) + ((fX3_frozenAt g (nI k)).toInt64) := by rfl
                    have q_24 : (nI 0 : Int32) = 0 := by rfl
                    exact LOOP_18 (4 - 0 + 1) 0 (Nat.zero_le _) (Nat.lt_succ_self _) ls (by rw [q_23, q_24]; exact lv_sub hl [2, 1, 3, 0] rfl)
                  · have hi8 : i < 8 := kx_lt (x := 8) (n := 8) rfl (by omega) (by omega) c_16
                    refine lv_ldc2 (v := 31) hx hb hown (hts (.constantLong RX3 168 (31)) (mem_at 2 rfl)) dX3_digest_51 ?_
                    refine lv_lload_n hx hb dX3_digest_54 rfl (lv_at hl 1 rfl) ?_
                    refine lv_lmul hx hb dX3_digest_55 ?_
                    refine lv_aload_n hx hb dX3_digest_56 rfl (lv_at hl 0 rfl) ?_
                    refine lv_iload_n hx hb dX3_digest_57 rfl (lv_at hl 2 rfl) ?_
                    refine lv_iload hx hb dX3_digest_58 (lv_at hl 3 rfl) ?_
                    refine x_rdV (As := [.int (nI k), .int (nI i)]) (rest := [.long (31 * (dgA g k (dgK g (dgC g n 8) k) i))]) ⟨hx, hb, hml, hown, hts⟩ (tX3_aboutOf l D cI cZ cC q o g k (by omega) (hfo k hkl) (nI i)) (cwV 2 hts gX3_digest_X3_aboutOf rfl rfl rfl (by decide +kernel) ⟨Nat.le_of_ble_eq_true rfl, Nat.le_of_ble_eq_true rfl⟩) hK (x_recv (ci := 3) hK hP rfl (q0 := 0) rfl) hP rfl hl.1 rfl (Nat.le_of_ble_eq_true rfl) dX3_digest_60 ⟨Nat.le_of_ble_eq_true rfl, Nat.le_of_ble_eq_true rfl⟩ (fun r_25 er_25 => ?_)
                    have er_25 : r_25 = aboutF g k (nI i) := er_25
                    subst er_25
                    refine lv_i2l (v := (aboutF g k (nI i)).toInt64) hx hb dX3_digest_63 rfl ?_
                    refine lv_ladd hx hb dX3_digest_64 ?_
                    refine lv_lstore_n (lv' := [(1, .long ((31 * (dgA g k (dgK g (dgC g n 8) k) i)) + ((aboutF g k (nI i)).toInt64))), (0, .ref o), (3, .int (nI k)), (4, .int (nI i))]) hx hb dX3_digest_65 rfl hl (by decide) rfl (fun ls hl => ?_)
                    refine lv_iinc (v := nI (i + 1)) (lv' := [(4, .int (nI (i + 1))), (1, .long ((31 * (dgA g k (dgK g (dgC g n 8) k) i)) + ((aboutF g k (nI i)).toInt64))), (0, .ref o), (3, .int (nI k))]) hx hb dX3_digest_66 hl (k := 3) rfl (nI_1 _) (by decide) rfl (fun ls hl => ?_)
                    refine lv_goto (tgt := 44) hx hb dX3_digest_69 (by decide) ?_
                    have q_26 : (dgA g k (dgK g (dgC g n 8) k) (i + 1) : Int64) = (31 * (dgA g k (dgK g (dgC g n 8) k) i)) + ((aboutF g k (nI i)).toInt64) := by rfl
                    exact ih2 (i + 1) (by omega) (by omega) ls (by rw [q_26]; exact lv_sub hl [2, 1, 3, 0] rfl)
              have q_27 : (dgA g k (dgK g (dgC g n 8) k) 0 : Int64) = dgK g (dgC g n 8) k := by rfl
              have q_28 : (nI 0 : Int32) = 0 := by rfl
              exact LOOP_15 (8 - 0 + 1) 0 (Nat.zero_le _) (Nat.lt_succ_self _) ls (by rw [q_27, q_28]; exact lv_sub hl [1, 2, 3, 0] rfl)
        have q_29 : (dgK g (dgC g n 8) 0 : Int64) = dgC g n 8 := by rfl
        have q_30 : (nI 0 : Int32) = 0 := by rfl
        exact LOOP_3 (n - 0 + 1) 0 (Nat.zero_le _) (Nat.lt_succ_self _) ls (by rw [q_29, q_30]; exact lv_sub hl [1, 2, 0] rfl)
      · have hi8 : i < 8 := kx_lt (x := 8) (n := 8) rfl (by omega) (by omega) c_2
        refine lv_ldc2 (v := 31) hx hb hown (hts (.constantLong RX3 168 (31)) (mem_at 2 rfl)) dX3_digest_12 ?_
        refine lv_lload_n hx hb dX3_digest_15 rfl (lv_at hl 1 rfl) ?_
        refine lv_lmul hx hb dX3_digest_16 ?_
        refine lv_aload_n hx hb dX3_digest_17 rfl (lv_at hl 0 rfl) ?_
        refine lv_iload_n hx hb dX3_digest_18 rfl (lv_at hl 2 rfl) ?_
        refine x_rdV (As := [.int (nI i)]) (rest := [.long (31 * (dgC g n i))]) ⟨hx, hb, hml, hown, hts⟩ (tX3_count l D cI cZ cC q o g n hn hnb (nI i)) (cwV 1 hts gX3_digest_X3_count rfl rfl rfl (by decide +kernel) ⟨Nat.le_of_ble_eq_true rfl, Nat.le_of_ble_eq_true rfl⟩) hK (x_recv (ci := 3) hK hP rfl (q0 := 0) rfl) hP rfl hl.1 rfl (Nat.le_of_ble_eq_true rfl) dX3_digest_19 ⟨Nat.le_of_ble_eq_true rfl, Nat.le_of_ble_eq_true rfl⟩ (fun r_31 er_31 => ?_)
        have er_31 : r_31 = countF g n (nI i) := er_31
        subst er_31
        refine lv_i2l (v := (countF g n (nI i)).toInt64) hx hb dX3_digest_22 rfl ?_
        refine lv_ladd hx hb dX3_digest_23 ?_
        refine lv_lstore_n (lv' := [(1, .long ((31 * (dgC g n i)) + ((countF g n (nI i)).toInt64))), (0, .ref o), (3, .int (nI i))]) hx hb dX3_digest_24 rfl hl (by decide) rfl (fun ls hl => ?_)
        refine lv_iinc (v := nI (i + 1)) (lv' := [(3, .int (nI (i + 1))), (1, .long ((31 * (dgC g n i)) + ((countF g n (nI i)).toInt64))), (0, .ref o)]) hx hb dX3_digest_25 hl (k := 2) rfl (nI_1 _) (by decide) rfl (fun ls hl => ?_)
        refine lv_goto (tgt := 6) hx hb dX3_digest_28 (by decide) ?_
        have q_32 : (dgC g n (i + 1) : Int64) = (31 * (dgC g n i)) + ((countF g n (nI i)).toInt64) := by rfl
        exact ih (i + 1) (by omega) (by omega) ls (by rw [q_32]; exact lv_sub hl [2, 1, 0] rfl)
  have q_33 : (dgC g n 0 : Int64) = 211 := by rfl
  have q_34 : (nI 0 : Int32) = 0 := by rfl
  exact LOOP_1 (8 - 0 + 1) 0 (Nat.zero_le _) (Nat.lt_succ_self _) ls (by rw [q_33, q_34]; exact lv_sub hl [2, 1, 0] rfl)
