set_option maxHeartbeats 4000000 in
set_option maxRecDepth 100000 in
theorem tX1_allLeast (l : Launch) (D : va_G) (cI cZ cC : ClassId) (ad : Nat → Nat) (v : Nat → Nat → Int32) : RdC l yX1_allLeast wsX1_allLeast (rmK 0) D cI cZ cC [.ref (ad 3)] (fun H => va_P D vwCl (wW cI ad v) H) (fun ans => ans = (1 <<< ((v 5 0) &&& 31)) - 1) := by
  refine RdC.of (cc := cX1_allLeast) (maxL := 1) (ret := .int) (by decide) rfl (Nat.le_of_ble_eq_true rfl) ?_
  intro p e s m args below meth c Q ls hx hb hml hts hown hK hP hret hl
  have hl : lv_has ls 1 [(0, .ref (ad 3))] := hl
  have hP : va_P D vwCl (wW cI ad v) s.heap := hP
  have hinX1 : ∀ w ∈ u_ws RX1 TX1 13, w ∈ wsX1_allLeast := (fun w h => List.mem_cons_of_mem _ (List.mem_append_right _ h))
  refine lv_iconst (v := 1) hx hb dX1_allLeast_0 (by decide) ?_
  refine lv_aload_n hx hb dX1_allLeast_1 rfl (lv_at hl 0 rfl) ?_
  refine va_get (D := D) (ci := 1) (v := .int (v 5 0)) (C := RX1) (T := TX1) (N := 13) hx hb hts hinX1 hown hK hP 0 rfl rfl 5 (by decide) (hts (.fieldLink RX1 28 "TroubleCodes$Workshop" "leastCount" "I") (mem_at 1 rfl)) (fun _ h9 => h9) rfl dX1_allLeast_2 ?_
  refine lv_ishl hx hb dX1_allLeast_5 ?_
  refine lv_iconst (v := 1) hx hb dX1_allLeast_6 (by decide) ?_
  refine lv_isub hx hb dX1_allLeast_7 ?_
  exact hret 8 _ _ (rfl) rfl dX1_allLeast_8

set_option maxHeartbeats 4000000 in
set_option maxRecDepth 100000 in
theorem tX1_isExplainedBy (l : Launch) (D : va_G) (cI cZ cC : ClassId) (ad : Nat → Nat) (v : Nat → Nat → Int32) (z : Nat) (hz : z < 1024) (x y : Int32) : RdC l yX1_isExplainedBy wsX1_isExplainedBy (rmK 0) D cI cZ cC [.ref (ad 3), .int (nI z), .int x, .int y] (fun H => va_P D vwCl (wW cI ad v) H) (fun ans => ans = bI ((v 3 z &&& x) = (y &&& x))) := by
  refine RdC.of (cc := cX1_isExplainedBy) (maxL := 4) (ret := .boolean) (by decide) rfl (Nat.le_of_ble_eq_true rfl) ?_
  intro p e s m args below meth c Q ls hx hb hml hts hown hK hP hret hl
  have hl : lv_has ls 4 [(0, .ref (ad 3)), (1, .int (nI z)), (2, .int x), (3, .int y)] := hl
  have hP : va_P D vwCl (wW cI ad v) s.heap := hP
  have hinX1 : ∀ w ∈ u_ws RX1 TX1 13, w ∈ wsX1_isExplainedBy := (fun w h => List.mem_cons_of_mem _ (List.mem_append_right _ h))
  refine lv_aload_n hx hb dX1_isExplainedBy_0 rfl (lv_at hl 0 rfl) ?_
  refine va_get (D := D) (ci := 1) (v := .ref (ad 6)) (C := RX1) (T := TX1) (N := 13) hx hb hts hinX1 hown hK hP 0 rfl rfl 3 (by decide) (hts (.fieldLink RX1 22 "TroubleCodes$Workshop" "madeBad" "[I") (mem_at 1 rfl)) (fun _ h9 => h9) rfl dX1_isExplainedBy_1 ?_
  refine lv_iload_n hx hb dX1_isExplainedBy_4 rfl (lv_at hl 1 rfl) ?_
  refine x_iald (k := z) (f := v 3) hx hb hK hP 3 rfl (by omega) (by decide) dX1_isExplainedBy_5 ?_
  refine lv_iload_n hx hb dX1_isExplainedBy_6 rfl (lv_at hl 2 rfl) ?_
  refine lv_iand hx hb dX1_isExplainedBy_7 ?_
  refine lv_iload_n hx hb dX1_isExplainedBy_8 rfl (lv_at hl 3 rfl) ?_
  refine lv_iload_n hx hb dX1_isExplainedBy_9 rfl (lv_at hl 2 rfl) ?_
  refine lv_iand hx hb dX1_isExplainedBy_10 ?_
  refine lv_icmp_ne (tgt := 18) hx hb dX1_isExplainedBy_11 (by decide) (fun c_1 => ?_) (fun c_1 => ?_)
  · refine lv_iconst (v := 0) hx hb dX1_isExplainedBy_18 (by decide) ?_
    exact hret 19 _ _ ((bI_f c_1).symm) rfl dX1_isExplainedBy_19
  · refine lv_iconst (v := 1) hx hb dX1_isExplainedBy_14 (by decide) ?_
    refine lv_goto (tgt := 19) hx hb dX1_isExplainedBy_15 (by decide) ?_
    exact hret 19 _ _ ((bI_t c_1).symm) rfl dX1_isExplainedBy_19

def mbF (a : Nat → Int32) (x : Int32) (w z : Nat) : Nat → Int32 := fun j => if w ≤ j ∧ j < w + z then a (j - w) ||| x else a j
theorem mbF_0 {a : Nat → Int32} {x : Int32} {w : Nat} : mbF a x w 0 = a := by funext j; simp only [mbF]; rw [if_neg (by omega)]
theorem mbF_k {a : Nat → Int32} {x : Int32} {w z k : Nat} (h : k < w) : mbF a x w z k = a k := by simp only [mbF]; rw [if_neg (by omega)]
theorem mbF_s {a : Nat → Int32} {x : Int32} {w z : Nat} : mbF a x w (z + 1) = upd (mbF a x w z) (z + w) (a z ||| x) := by
  funext j
  simp only [mbF, upd]
  by_cases h : j = z + w
  · subst h; rw [if_pos (by omega), if_pos rfl]; congr 2; omega
  · rw [if_neg h]
    by_cases h2 : w ≤ j ∧ j < w + z
    · rw [if_pos h2, if_pos (by omega)]
    · rw [if_neg h2, if_neg (by omega)]

theorem kx_lt10 {x : Int32} {m : Nat} (hm : x = nI m) (hb : m ≤ 10) (c : x < 10) : m < 10 := by
  rw [hm] at c
  exact (nI_ltI (b := 10) (by omega) (by decide)).mp c

def fX1_addCause (v : Nat → Nat → Int32) (x y : Int32) : Int32 × (Nat → Nat → Int32) := if (v 2 0) < 10 then (((v 2 0) + 1) - 1, va_up (va_up (va_up (va_up v 0 (upd (v 0) (ix (v 2 0)) x)) 1 (upd (v 1) (ix (v 2 0)) y)) 2 (fun _ => (v 2 0) + 1)) 3 (mbF (v 3) x (2 ^ (ix (v 2 0))) (2 ^ (ix (v 2 0))))) else ((-4), v)
set_option maxHeartbeats 4000000 in
set_option maxRecDepth 100000 in
theorem tX1_addCause (l : Launch) (D : va_G) (cI cZ cC : ClassId) (ad : Nat → Nat) (v : Nat → Nat → Int32) (mm : Nat) (hm : v 2 0 = nI mm) (hmb : mm ≤ 10) (x y : Int32) : WrI l yX1_addCause wsX1_addCause (rmK 0) D cI cZ cC [.ref (ad 3), .int x, .int y] (wW cI ad v) (wW cI ad ((fX1_addCause v x y).2)) (fun ans => ans = (fX1_addCause v x y).1) := by
  refine WrI.of (cc := cX1_addCause) (maxL := 5) (ret := .int) (by decide) rfl (Nat.le_of_ble_eq_true rfl) ?_
  intro p e s m args below meth c Q A ls hx hb hml hts hown hK hP hD hS hA hret hl
  have hl : lv_has ls 5 [(0, .ref (ad 3)), (1, .int x), (2, .int y)] := hl
  have hinX1 : ∀ w ∈ u_ws RX1 TX1 13, w ∈ wsX1_addCause := (fun w h => List.mem_cons_of_mem _ (List.mem_append_right _ h))
  refine lv_aload_n hx hb dX1_addCause_0 rfl (lv_at hl 0 rfl) ?_
  refine va_get (D := D) (ci := 1) (v := .int (v 2 0)) (C := RX1) (T := TX1) (N := 13) hx hb hts hinX1 hown hK hP 0 rfl rfl 2 (by decide) (hts (.fieldLink RX1 18 "TroubleCodes$Workshop" "causeCount" "I") (mem_at 1 rfl)) (fun _ h9 => h9) rfl dX1_addCause_1 ?_
  refine lv_bipush (v := 10) hx hb dX1_addCause_4 (by decide) ?_
  refine lv_icmp_lt (tgt := 12) hx hb dX1_addCause_6 (by decide) (fun c_1 => ?_) (fun c_1 => ?_)
  · have hm9 : mm < 10 := kx_lt10 hm hmb c_1
    have xm : ix (v 2 0) = mm := by rw [hm]; exact ix_nI (by omega)
    have hpw : 2 ^ mm ≤ 512 := Nat.pow_le_pow_right (n := 2) (by decide) (show mm ≤ 9 by omega)
    refine lv_aload_n hx hb dX1_addCause_12 rfl (lv_at hl 0 rfl) ?_
    refine va_get (D := D) (ci := 1) (v := .ref (ad 4)) (C := RX1) (T := TX1) (N := 13) hx hb hts hinX1 hown hK hP 0 rfl rfl 0 (by decide) (hts (.fieldLink RX1 11 "TroubleCodes$Workshop" "causeChecks" "[I") (mem_at 2 rfl)) (fun _ h9 => h9) rfl dX1_addCause_13 ?_
    refine lv_aload_n hx hb dX1_addCause_16 rfl (lv_at hl 0 rfl) ?_
    refine va_get (D := D) (ci := 1) (v := .int (v 2 0)) (C := RX1) (T := TX1) (N := 13) hx hb hts hinX1 hown hK hP 0 rfl rfl 2 (by decide) (hts (.fieldLink RX1 18 "TroubleCodes$Workshop" "causeCount" "I") (mem_at 1 rfl)) (fun _ h9 => h9) rfl dX1_addCause_17 ?_
    refine lv_iload_n hx hb dX1_addCause_20 rfl (lv_at hl 1 rfl) ?_
    rw [hm]
    refine x_iast (k := mm) (f := v 0) (x := x) hx hb hK hP hD hS 1 rfl (by omega) (by decide) dX1_addCause_21 (fun H locs hP hD hS => ?_)
    have hP : va_P D vwCl (wW cI ad (va_up v 0 (upd (v 0) mm x))) H := hP
    have hD : va_D A (wW cI ad (va_up v 0 (upd (v 0) mm x))) := hD
    refine lv_aload_n hx hb dX1_addCause_22 rfl (lv_at hl 0 rfl) ?_
    refine va_get (D := D) (ci := 1) (v := .ref (ad 5)) (C := RX1) (T := TX1) (N := 13) hx hb hts hinX1 hown hK hP 0 rfl rfl 1 (by decide) (hts (.fieldLink RX1 15 "TroubleCodes$Workshop" "prices" "[I") (mem_at 3 rfl)) (fun _ h9 => h9) rfl dX1_addCause_23 ?_
    refine lv_aload_n hx hb dX1_addCause_26 rfl (lv_at hl 0 rfl) ?_
    refine va_get (D := D) (ci := 1) (v := .int (v 2 0)) (C := RX1) (T := TX1) (N := 13) hx hb hts hinX1 hown hK hP 0 rfl rfl 2 (by decide) (hts (.fieldLink RX1 18 "TroubleCodes$Workshop" "causeCount" "I") (mem_at 1 rfl)) (fun _ h9 => h9) rfl dX1_addCause_27 ?_
    refine lv_iload_n hx hb dX1_addCause_30 rfl (lv_at hl 2 rfl) ?_
    rw [hm]
    refine x_iast (k := mm) (f := v 1) (x := y) hx hb hK hP hD hS 2 rfl (by omega) (by decide) dX1_addCause_31 (fun H locs hP hD hS => ?_)
    have hP : va_P D vwCl (wW cI ad (va_up (va_up v 0 (upd (v 0) mm x)) 1 (upd (v 1) mm y))) H := hP
    have hD : va_D A (wW cI ad (va_up (va_up v 0 (upd (v 0) mm x)) 1 (upd (v 1) mm y))) := hD
    refine lv_iconst (v := 1) hx hb dX1_addCause_32 (by decide) ?_
    refine lv_aload_n hx hb dX1_addCause_33 rfl (lv_at hl 0 rfl) ?_
    refine va_get (D := D) (ci := 1) (v := .int (v 2 0)) (C := RX1) (T := TX1) (N := 13) hx hb hts hinX1 hown hK hP 0 rfl rfl 2 (by decide) (hts (.fieldLink RX1 18 "TroubleCodes$Workshop" "causeCount" "I") (mem_at 1 rfl)) (fun _ h9 => h9) rfl dX1_addCause_34 ?_
    refine lv_ishl hx hb dX1_addCause_37 ?_
    rw [shl1x hm (by omega)]
    refine lv_istore_n (lv' := [(3, .int (nI (2 ^ mm))), (0, .ref (ad 3)), (1, .int x), (2, .int y)]) hx hb dX1_addCause_38 rfl hl (by decide) rfl (fun ls hl => ?_)
    refine lv_iconst (v := 0) hx hb dX1_addCause_39 (by decide) ?_
    refine lv_istore (lv' := [(4, .int 0), (3, .int (nI (2 ^ mm))), (0, .ref (ad 3)), (1, .int x), (2, .int y)]) hx hb dX1_addCause_40 hl (by decide) rfl (fun ls hl => ?_)
    have LOOP_2 : ∀ (fu z : Nat), z ≤ 2 ^ mm → 2 ^ mm - z < fu → ∀ (H : Heap) (locs : List Loc) (ls : Array Slot), va_P D vwCl (wW cI ad (va_up (va_up (va_up v 0 (upd (v 0) mm x)) 1 (upd (v 1) mm y)) 3 (mbF (v 3) x (2 ^ mm) z))) H → va_D A (wW cI ad (va_up (va_up (va_up v 0 (upd (v 0) mm x)) 1 (upd (v 1) mm y)) 3 (mbF (v 3) x (2 ^ mm) z))) → va_S A s.heap H locs → lv_has ls 5 [(0, .ref (ad 3)), (1, .int x), (3, .int (nI (2 ^ mm))), (4, .int (nI z))] → W p l e (rmK 0) s m args below meth c H locs 0 0 Q (F0 m 42 ls []) := by
      intro fu
      induction fu with
      | zero => intro z h1 h2; exact absurd h2 (Nat.not_lt_zero _)
      | succ fu ih =>
        intro z hkn hfu  H locs ls hP hD hS hl
        refine lv_iload hx hb dX1_addCause_42 (lv_at hl 3 rfl) ?_
        refine lv_iload_n hx hb dX1_addCause_44 rfl (lv_at hl 2 rfl) ?_
        refine lv_icmp_ge (tgt := 72) hx hb dX1_addCause_45 (by decide) (fun c_3 => ?_) (fun c_3 => ?_)
        · have ekn : 2 ^ mm = z := Nat.le_antisymm (kx_ge (x := nI (2 ^ mm)) rfl (by omega) (by omega) c_3) hkn
          subst ekn
          refine lv_aload_n hx hb dX1_addCause_72 rfl (lv_at hl 0 rfl) ?_
          refine lv_dup hx hb dX1_addCause_73 rfl ?_
          refine va_get (D := D) (ci := 1) (v := .int (v 2 0)) (C := RX1) (T := TX1) (N := 13) hx hb hts hinX1 hown hK hP 0 rfl rfl 2 (by decide) (hts (.fieldLink RX1 18 "TroubleCodes$Workshop" "causeCount" "I") (mem_at 1 rfl)) (fun _ h9 => h9) rfl dX1_addCause_74 ?_
          refine lv_iconst (v := 1) hx hb dX1_addCause_77 (by decide) ?_
          refine lv_iadd hx hb dX1_addCause_78 ?_
          refine va_put (D := D) (ci := 1) (v := .int ((v 2 0) + 1)) (ty := .int) (C := RX1) (T := TX1) (N := 13) hx hb hts hinX1 tyX1 tyX1_ok nmX1 hown hK hP hD hS 0 rfl rfl 2 (by decide) (hts (.fieldLink RX1 18 "TroubleCodes$Workshop" "causeCount" "I") (mem_at 1 rfl)) (fun _ h9 => h9) rfl (by decide +kernel) rfl rfl (Nat.le_of_ble_eq_true rfl) dX1_addCause_79 (fun H locs hP hD hS => ?_)
          have hP : va_P D vwCl (wW cI ad (va_up (va_up (va_up (va_up v 0 (upd (v 0) mm x)) 1 (upd (v 1) mm y)) 2 (fun _ => (v 2 0) + 1)) 3 (mbF (v 3) x (2 ^ mm) (2 ^ mm)))) H := hP
          have hD : va_D A (wW cI ad (va_up (va_up (va_up (va_up v 0 (upd (v 0) mm x)) 1 (upd (v 1) mm y)) 2 (fun _ => (v 2 0) + 1)) 3 (mbF (v 3) x (2 ^ mm) (2 ^ mm)))) := hD
          refine lv_aload_n hx hb dX1_addCause_82 rfl (lv_at hl 0 rfl) ?_
          refine va_get (D := D) (ci := 1) (v := .int ((v 2 0) + 1)) (C := RX1) (T := TX1) (N := 13) hx hb hts hinX1 hown hK hP 0 rfl rfl 2 (by decide) (hts (.fieldLink RX1 18 "TroubleCodes$Workshop" "causeCount" "I") (mem_at 1 rfl)) (fun _ h9 => h9) rfl dX1_addCause_83 ?_
          refine lv_iconst (v := 1) hx hb dX1_addCause_86 (by decide) ?_
          refine lv_isub hx hb dX1_addCause_87 ?_
          have es : fX1_addCause v x y = (((v 2 0) + 1) - 1, va_up (va_up (va_up (va_up v 0 (upd (v 0) mm x)) 1 (upd (v 1) mm y)) 2 (fun _ => (v 2 0) + 1)) 3 (mbF (v 3) x (2 ^ mm) (2 ^ mm))) := by rw [fX1_addCause]; simp only [xm]; rw [if_pos c_1]
          exact hret 88 _ _ _ _ (by rw [es]) (by rw [es]; exact hP) (by rw [es]; exact hD) hS rfl dX1_addCause_88
        · have hzl : z < 2 ^ mm := kx_lt (x := nI (2 ^ mm)) rfl (by omega) (by omega) c_3
          refine lv_aload_n hx hb dX1_addCause_48 rfl (lv_at hl 0 rfl) ?_
          refine va_get (D := D) (ci := 1) (v := .ref (ad 6)) (C := RX1) (T := TX1) (N := 13) hx hb hts hinX1 hown hK hP 0 rfl rfl 3 (by decide) (hts (.fieldLink RX1 22 "TroubleCodes$Workshop" "madeBad" "[I") (mem_at 4 rfl)) (fun _ h9 => h9) rfl dX1_addCause_49 ?_
          refine lv_iload hx hb dX1_addCause_52 (lv_at hl 3 rfl) ?_
          refine lv_iload_n hx hb dX1_addCause_54 rfl (lv_at hl 2 rfl) ?_
          refine lv_iadd hx hb dX1_addCause_55 ?_
          rw [nI_add]
          refine lv_aload_n hx hb dX1_addCause_56 rfl (lv_at hl 0 rfl) ?_
          refine va_get (D := D) (ci := 1) (v := .ref (ad 6)) (C := RX1) (T := TX1) (N := 13) hx hb hts hinX1 hown hK hP 0 rfl rfl 3 (by decide) (hts (.fieldLink RX1 22 "TroubleCodes$Workshop" "madeBad" "[I") (mem_at 4 rfl)) (fun _ h9 => h9) rfl dX1_addCause_57 ?_
          refine lv_iload hx hb dX1_addCause_60 (lv_at hl 3 rfl) ?_
          refine x_iald (k := z) (f := mbF (v 3) x (2 ^ mm) z) hx hb hK hP 3 rfl (by omega) (by decide) dX1_addCause_62 ?_
          rw [mbF_k hzl]
          refine lv_iload_n hx hb dX1_addCause_63 rfl (lv_at hl 1 rfl) ?_
          refine lv_ior hx hb dX1_addCause_64 ?_
          refine x_iast (k := (z + 2 ^ mm)) (f := mbF (v 3) x (2 ^ mm) z) (x := (v 3 z) ||| x) hx hb hK hP hD hS 3 rfl (by omega) (by decide) dX1_addCause_65 (fun H locs hP hD hS => ?_)
          have hP : va_P D vwCl (wW cI ad (va_up (va_up (va_up v 0 (upd (v 0) mm x)) 1 (upd (v 1) mm y)) 3 (upd (mbF (v 3) x (2 ^ mm) z) (z + 2 ^ mm) ((v 3 z) ||| x)))) H := hP
          have hD : va_D A (wW cI ad (va_up (va_up (va_up v 0 (upd (v 0) mm x)) 1 (upd (v 1) mm y)) 3 (upd (mbF (v 3) x (2 ^ mm) z) (z + 2 ^ mm) ((v 3 z) ||| x)))) := hD
          refine lv_iinc (v := nI (z + 1)) (lv' := [(4, .int (nI (z + 1))), (0, .ref (ad 3)), (1, .int x), (3, .int (nI (2 ^ mm)))]) hx hb dX1_addCause_66 hl (k := 3) rfl (nI_1 _) (by decide) rfl (fun ls hl => ?_)
          refine lv_goto (tgt := 42) hx hb dX1_addCause_69 (by decide) ?_
          have q_4 : va_up (va_up (va_up v 0 (upd (v 0) mm x)) 1 (upd (v 1) mm y)) 3 (mbF (v 3) x (2 ^ mm) (z + 1)) = va_up (va_up (va_up v 0 (upd (v 0) mm x)) 1 (upd (v 1) mm y)) 3 (upd (mbF (v 3) x (2 ^ mm) z) (z + 2 ^ mm) ((v 3 z) ||| x)) := by rw [mbF_s]
          exact ih (z + 1) (by omega) (by omega) H locs ls (by rw [q_4]; exact hP) (by rw [q_4]; exact hD) hS (by exact lv_sub hl [1, 2, 3, 0] rfl)
    have q_5 : (nI 0 : Int32) = 0 := by rfl
    exact LOOP_2 (2 ^ mm - 0 + 1) 0 (Nat.zero_le _) (Nat.lt_succ_self _) _ _ ls (by rw [mbF_0]; exact hP) (by rw [mbF_0]; exact hD) hS (by rw [q_5]; exact lv_sub hl [2, 3, 1, 0] rfl)
  · refine lv_bipush (v := (-4)) hx hb dX1_addCause_9 (by decide) ?_
    have es : fX1_addCause v x y = ((-4), v) := by rw [fX1_addCause]; rw [if_neg c_1]
    exact hret 11 _ _ _ _ (by rw [es]) (by rw [es]; exact hP) (by rw [es]; exact hD) hS rfl dX1_addCause_11

def dgW (a b : Nat → Int32) (h : Int64) : Nat → Int64
  | 0 => h
  | i + 1 => 31 * (31 * dgW a b h i + (a i).toInt64) + (b i).toInt64
def hoF (li : Nat → Int32) (ci : Nat) : Nat → Int32
  | 0 => 0
  | i + 1 => hoF li ci i ||| (((li i >>> (nI ci &&& 31)) &&& 1) <<< (nI i &&& 31))
def pfI (price ho S : Nat → Int32) (s : Nat) : Nat → Int32 × Int32
  | 0 => (0, -1)
  | i + 1 =>
    if ¬ ix (nI s &&& ho i) = 0 ∧ ¬ ix (nI s &&& ho i) = s ∧ ((pfI price ho S s i).2 = -1 ∨ price i * nI (popG 16 s) + S (ix (nI s &&& ho i)) + S (s - ix (nI s &&& ho i)) < (pfI price ho S s i).1) then
      (price i * nI (popG 16 s) + S (ix (nI s &&& ho i)) + S (s - ix (nI s &&& ho i)), nI i)
    else pfI price ho S s i
def mpF (price ho : Nat → Int32) (mm : Nat) (S0 : Nat → Int32) (f0 : Int32) : Nat → (Nat → Int32) × Int32
  | 0 => (S0, f0)
  | k + 1 => (upd (mpF price ho mm S0 f0 k).1 (k + 1) (pfI price ho (mpF price ho mm S0 f0 k).1 (k + 1) mm).1, (pfI price ho (mpF price ho mm S0 f0 k).1 (k + 1) mm).2)
def flC (E : Nat → Bool) (li0 : Nat → Int32) : Nat → Nat × Nat × (Nat → Int32)
  | 0 => (0, 10, li0)
  | z + 1 =>
    if popG 16 z ≤ (flC E li0 z).2.1 ∧ E z = true then
      (if (if popG 16 z < (flC E li0 z).2.1 then 0 else (flC E li0 z).1) < 10 then
        ((if popG 16 z < (flC E li0 z).2.1 then 0 else (flC E li0 z).1) + 1, popG 16 z, upd (flC E li0 z).2.2 (if popG 16 z < (flC E li0 z).2.1 then 0 else (flC E li0 z).1) (nI z))
      else ((if popG 16 z < (flC E li0 z).2.1 then 0 else (flC E li0 z).1), popG 16 z, (flC E li0 z).2.2))
    else flC E li0 z
theorem flC_b (E : Nat → Bool) (li0 : Nat → Int32) : ∀ z, (flC E li0 z).1 ≤ 10 ∧ (flC E li0 z).2.1 ≤ 16
  | 0 => ⟨Nat.zero_le _, by show 10 ≤ 16; decide⟩
  | z + 1 => by
    have ih := flC_b E li0 z
    have hp := popG_le 16 z
    rw [flC]
    by_cases h1 : popG 16 z ≤ (flC E li0 z).2.1 ∧ E z = true
    · rw [if_pos h1]
      by_cases h2 : popG 16 z < (flC E li0 z).2.1
      · rw [if_pos h2]; simp; exact hp
      · rw [if_neg h2]
        by_cases h3 : (flC E li0 z).1 < 10
        · rw [if_pos h3]; exact ⟨h3, hp⟩
        · rw [if_neg h3]; exact ⟨ih.1, hp⟩
    · rw [if_neg h1]; exact ih

set_option maxHeartbeats 4000000 in
set_option maxRecDepth 100000 in
theorem tX1_digestFrom (l : Launch) (D : va_G) (cI cZ cC : ClassId) (ad : Nat → Nat) (v : Nat → Nat → Int32) (mm : Nat) (hm : v 2 0 = nI mm) (hmb : mm ≤ 10) (hh : Int64) : RdL l yX1_digestFrom wsX1_digestFrom (rmK 0) D cI cZ cC [.ref (ad 3), .long hh] (fun H => va_P D vwCl (wW cI ad v) H) (fun ans => ans = dgW (v 0) (v 1) hh mm) := by
  refine RdL.of (cc := cX1_digestFrom) (maxL := 6) (by decide) rfl (Nat.le_of_ble_eq_true rfl) ?_
  intro p e s m args below meth c Q ls hx hb hml hts hown hK hP hret hl
  have hl : lv_has ls 6 [(0, .ref (ad 3)), (1, .long hh)] := hl
  have hP : va_P D vwCl (wW cI ad v) s.heap := hP
  have hinX1 : ∀ w ∈ u_ws RX1 TX1 13, w ∈ wsX1_digestFrom := (fun w h => List.mem_cons_of_mem _ (List.mem_append_right _ h))
  refine lv_lload_n hx hb dX1_digestFrom_0 rfl (lv_at hl 1 rfl) ?_
  refine lv_lstore_n (lv' := [(3, .long hh), (0, .ref (ad 3)), (1, .long hh)]) hx hb dX1_digestFrom_1 rfl hl (by decide) rfl (fun ls hl => ?_)
  refine lv_iconst (v := 0) hx hb dX1_digestFrom_2 (by decide) ?_
  refine lv_istore (lv' := [(5, .int 0), (3, .long hh), (0, .ref (ad 3)), (1, .long hh)]) hx hb dX1_digestFrom_3 hl (by decide) rfl (fun ls hl => ?_)
  have LOOP_1 : ∀ (fu i : Nat), i ≤ mm → mm - i < fu → ∀ (ls : Array Slot), lv_has ls 6 [(0, .ref (ad 3)), (3, .long (dgW (v 0) (v 1) hh i)), (5, .int (nI i))] → W p l e (rmK 0) s m args below meth c s.heap [] 0 0 Q (F0 m 5 ls []) := by
    intro fu
    induction fu with
    | zero => intro i h1 h2; exact absurd h2 (Nat.not_lt_zero _)
    | succ fu ih =>
      intro i hkn hfu  ls hl
      refine lv_iload hx hb dX1_digestFrom_5 (lv_at hl 2 rfl) ?_
      refine lv_aload_n hx hb dX1_digestFrom_7 rfl (lv_at hl 0 rfl) ?_
      refine va_get (D := D) (ci := 1) (v := .int (v 2 0)) (C := RX1) (T := TX1) (N := 13) hx hb hts hinX1 hown hK hP 0 rfl rfl 2 (by decide) (hts (.fieldLink RX1 18 "TroubleCodes$Workshop" "causeCount" "I") (mem_at 1 rfl)) (fun _ h9 => h9) rfl dX1_digestFrom_8 ?_
      refine lv_icmp_ge (tgt := 50) hx hb dX1_digestFrom_11 (by decide) (fun c_2 => ?_) (fun c_2 => ?_)
      · have ekn : mm = i := Nat.le_antisymm (kx_ge hm (by omega) (by omega) c_2) hkn
        subst ekn
        refine lv_lload_n hx hb dX1_digestFrom_50 rfl (lv_at hl 1 rfl) ?_
        exact hret 51 _ _ rfl dX1_digestFrom_51
      · have him : i < mm := kx_lt hm (by omega) (by omega) c_2
        refine lv_ldc2 (v := 31) hx hb hown (hts (.constantLong RX1 80 (31)) (mem_at 2 rfl)) dX1_digestFrom_14 ?_
        refine lv_lload_n hx hb dX1_digestFrom_17 rfl (lv_at hl 1 rfl) ?_
        refine lv_lmul hx hb dX1_digestFrom_18 ?_
        refine lv_aload_n hx hb dX1_digestFrom_19 rfl (lv_at hl 0 rfl) ?_
        refine va_get (D := D) (ci := 1) (v := .ref (ad 4)) (C := RX1) (T := TX1) (N := 13) hx hb hts hinX1 hown hK hP 0 rfl rfl 0 (by decide) (hts (.fieldLink RX1 11 "TroubleCodes$Workshop" "causeChecks" "[I") (mem_at 3 rfl)) (fun _ h9 => h9) rfl dX1_digestFrom_20 ?_
        refine lv_iload hx hb dX1_digestFrom_23 (lv_at hl 2 rfl) ?_
        refine x_iald (k := i) (f := v 0) hx hb hK hP 1 rfl (by omega) (by decide) dX1_digestFrom_25 ?_
        refine lv_i2l (v := (v 0 i).toInt64) hx hb dX1_digestFrom_26 rfl ?_
        refine lv_ladd hx hb dX1_digestFrom_27 ?_
        refine lv_lstore_n (lv' := [(3, .long ((31 * (dgW (v 0) (v 1) hh i)) + ((v 0 i).toInt64))), (0, .ref (ad 3)), (5, .int (nI i))]) hx hb dX1_digestFrom_28 rfl hl (by decide) rfl (fun ls hl => ?_)
        refine lv_ldc2 (v := 31) hx hb hown (hts (.constantLong RX1 80 (31)) (mem_at 2 rfl)) dX1_digestFrom_29 ?_
        refine lv_lload_n hx hb dX1_digestFrom_32 rfl (lv_at hl 0 rfl) ?_
        refine lv_lmul hx hb dX1_digestFrom_33 ?_
        refine lv_aload_n hx hb dX1_digestFrom_34 rfl (lv_at hl 1 rfl) ?_
        refine va_get (D := D) (ci := 1) (v := .ref (ad 5)) (C := RX1) (T := TX1) (N := 13) hx hb hts hinX1 hown hK hP 0 rfl rfl 1 (by decide) (hts (.fieldLink RX1 15 "TroubleCodes$Workshop" "prices" "[I") (mem_at 4 rfl)) (fun _ h9 => h9) rfl dX1_digestFrom_35 ?_
        refine lv_iload hx hb dX1_digestFrom_38 (lv_at hl 2 rfl) ?_
        refine x_iald (k := i) (f := v 1) hx hb hK hP 2 rfl (by omega) (by decide) dX1_digestFrom_40 ?_
        refine lv_i2l (v := (v 1 i).toInt64) hx hb dX1_digestFrom_41 rfl ?_
        refine lv_ladd hx hb dX1_digestFrom_42 ?_
        refine lv_lstore_n (lv' := [(3, .long ((31 * ((31 * (dgW (v 0) (v 1) hh i)) + ((v 0 i).toInt64))) + ((v 1 i).toInt64))), (0, .ref (ad 3)), (5, .int (nI i))]) hx hb dX1_digestFrom_43 rfl hl (by decide) rfl (fun ls hl => ?_)
        refine lv_iinc (v := nI (i + 1)) (lv' := [(5, .int (nI (i + 1))), (3, .long ((31 * ((31 * (dgW (v 0) (v 1) hh i)) + ((v 0 i).toInt64))) + ((v 1 i).toInt64))), (0, .ref (ad 3))]) hx hb dX1_digestFrom_44 hl (k := 2) rfl (nI_1 _) (by decide) rfl (fun ls hl => ?_)
        refine lv_goto (tgt := 5) hx hb dX1_digestFrom_47 (by decide) ?_
        have q_3 : (dgW (v 0) (v 1) hh (i + 1) : Int64) = (31 * ((31 * (dgW (v 0) (v 1) hh i)) + ((v 0 i).toInt64))) + ((v 1 i).toInt64) := by rfl
        exact ih (i + 1) (by omega) (by omega) ls (by rw [q_3]; exact lv_sub hl [2, 1, 0] rfl)
  have q_4 : (dgW (v 0) (v 1) hh 0 : Int64) = hh := by rfl
  have q_5 : (nI 0 : Int32) = 0 := by rfl
  exact LOOP_1 (mm - 0 + 1) 0 (Nat.zero_le _) (Nat.lt_succ_self _) ls (by rw [q_4, q_5]; exact lv_sub hl [2, 1, 0] rfl)

set_option maxHeartbeats 4000000 in
set_option maxRecDepth 100000 in
theorem tX1_holdersOf (l : Launch) (D : va_G) (cI cZ cC : ClassId) (ad : Nat → Nat) (v : Nat → Nat → Int32) (L : Nat) (hL : v 5 0 = nI L) (hLb : L ≤ 10) (ci : Nat) : RdC l yX1_holdersOf wsX1_holdersOf (rmK 0) D cI cZ cC [.ref (ad 3), .int (nI ci)] (fun H => va_P D vwCl (wW cI ad v) H) (fun ans => ans = hoF (v 4) ci L) := by
  refine RdC.of (cc := cX1_holdersOf) (maxL := 4) (ret := .int) (by decide) rfl (Nat.le_of_ble_eq_true rfl) ?_
  intro p e s m args below meth c Q ls hx hb hml hts hown hK hP hret hl
  have hl : lv_has ls 4 [(0, .ref (ad 3)), (1, .int (nI ci))] := hl
  have hP : va_P D vwCl (wW cI ad v) s.heap := hP
  have hinX1 : ∀ w ∈ u_ws RX1 TX1 13, w ∈ wsX1_holdersOf := (fun w h => List.mem_cons_of_mem _ (List.mem_append_right _ h))
  refine lv_iconst (v := 0) hx hb dX1_holdersOf_0 (by decide) ?_
  refine lv_istore_n (lv' := [(2, .int 0), (0, .ref (ad 3)), (1, .int (nI ci))]) hx hb dX1_holdersOf_1 rfl hl (by decide) rfl (fun ls hl => ?_)
  refine lv_iconst (v := 0) hx hb dX1_holdersOf_2 (by decide) ?_
  refine lv_istore_n (lv' := [(3, .int 0), (2, .int 0), (0, .ref (ad 3)), (1, .int (nI ci))]) hx hb dX1_holdersOf_3 rfl hl (by decide) rfl (fun ls hl => ?_)
  have LOOP_1 : ∀ (fu i : Nat), i ≤ L → L - i < fu → ∀ (ls : Array Slot), lv_has ls 4 [(0, .ref (ad 3)), (1, .int (nI ci)), (2, .int (hoF (v 4) ci i)), (3, .int (nI i))] → W p l e (rmK 0) s m args below meth c s.heap [] 0 0 Q (F0 m 4 ls []) := by
    intro fu
    induction fu with
    | zero => intro i h1 h2; exact absurd h2 (Nat.not_lt_zero _)
    | succ fu ih =>
      intro i hkn hfu  ls hl
      refine lv_iload_n hx hb dX1_holdersOf_4 rfl (lv_at hl 3 rfl) ?_
      refine lv_aload_n hx hb dX1_holdersOf_5 rfl (lv_at hl 0 rfl) ?_
      refine va_get (D := D) (ci := 1) (v := .int (v 5 0)) (C := RX1) (T := TX1) (N := 13) hx hb hts hinX1 hown hK hP 0 rfl rfl 5 (by decide) (hts (.fieldLink RX1 28 "TroubleCodes$Workshop" "leastCount" "I") (mem_at 1 rfl)) (fun _ h9 => h9) rfl dX1_holdersOf_6 ?_
      refine lv_icmp_ge (tgt := 33) hx hb dX1_holdersOf_9 (by decide) (fun c_2 => ?_) (fun c_2 => ?_)
      · have ekn : L = i := Nat.le_antisymm (kx_ge hL (by omega) (by omega) c_2) hkn
        subst ekn
        refine lv_iload_n hx hb dX1_holdersOf_33 rfl (lv_at hl 2 rfl) ?_
        exact hret 34 _ _ (rfl) rfl dX1_holdersOf_34
      · have hil : i < L := kx_lt hL (by omega) (by omega) c_2
        refine lv_iload_n hx hb dX1_holdersOf_12 rfl (lv_at hl 2 rfl) ?_
        refine lv_aload_n hx hb dX1_holdersOf_13 rfl (lv_at hl 0 rfl) ?_
        refine va_get (D := D) (ci := 1) (v := .ref (ad 7)) (C := RX1) (T := TX1) (N := 13) hx hb hts hinX1 hown hK hP 0 rfl rfl 4 (by decide) (hts (.fieldLink RX1 25 "TroubleCodes$Workshop" "least" "[I") (mem_at 2 rfl)) (fun _ h9 => h9) rfl dX1_holdersOf_14 ?_
        refine lv_iload_n hx hb dX1_holdersOf_17 rfl (lv_at hl 3 rfl) ?_
        refine x_iald (k := i) (f := v 4) hx hb hK hP 4 rfl (by omega) (by decide) dX1_holdersOf_18 ?_
        refine lv_iload_n hx hb dX1_holdersOf_19 rfl (lv_at hl 1 rfl) ?_
        refine lv_ishr hx hb dX1_holdersOf_20 ?_
        refine lv_iconst (v := 1) hx hb dX1_holdersOf_21 (by decide) ?_
        refine lv_iand hx hb dX1_holdersOf_22 ?_
        refine lv_iload_n hx hb dX1_holdersOf_23 rfl (lv_at hl 3 rfl) ?_
        refine lv_ishl hx hb dX1_holdersOf_24 ?_
        refine lv_ior hx hb dX1_holdersOf_25 ?_
        refine lv_istore_n (lv' := [(2, .int ((hoF (v 4) ci i) ||| ((((v 4 i) >>> ((nI ci) &&& 31)) &&& 1) <<< ((nI i) &&& 31)))), (0, .ref (ad 3)), (1, .int (nI ci)), (3, .int (nI i))]) hx hb dX1_holdersOf_26 rfl hl (by decide) rfl (fun ls hl => ?_)
        refine lv_iinc (v := nI (i + 1)) (lv' := [(3, .int (nI (i + 1))), (2, .int ((hoF (v 4) ci i) ||| ((((v 4 i) >>> ((nI ci) &&& 31)) &&& 1) <<< ((nI i) &&& 31)))), (0, .ref (ad 3)), (1, .int (nI ci))]) hx hb dX1_holdersOf_27 hl (k := 3) rfl (nI_1 _) (by decide) rfl (fun ls hl => ?_)
        refine lv_goto (tgt := 4) hx hb dX1_holdersOf_30 (by decide) ?_
        have q_3 : (hoF (v 4) ci (i + 1) : Int32) = (hoF (v 4) ci i) ||| ((((v 4 i) >>> ((nI ci) &&& 31)) &&& 1) <<< ((nI i) &&& 31)) := by rfl
        exact ih (i + 1) (by omega) (by omega) ls (by rw [q_3]; exact lv_sub hl [2, 3, 1, 0] rfl)
  have q_4 : (hoF (v 4) ci 0 : Int32) = 0 := by rfl
  have q_5 : (nI 0 : Int32) = 0 := by rfl
  exact LOOP_1 (L - 0 + 1) 0 (Nat.zero_le _) (Nat.lt_succ_self _) ls (by rw [q_4, q_5]; exact lv_sub hl [2, 3, 1, 0] rfl)

def fX1_planFor (v : Nat → Nat → Int32) (mm s : Nat) : Nat → Nat → Int32 := va_up (va_up v 7 (upd (v 7) s (pfI (v 1) (v 6) (v 7) s mm).1)) 8 (fun _ => (pfI (v 1) (v 6) (v 7) s mm).2)

set_option maxHeartbeats 4000000 in
set_option maxRecDepth 100000 in
theorem tX1_planFor (l : Launch) (D : va_G) (cI cZ cC : ClassId) (ad : Nat → Nat) (v : Nat → Nat → Int32) (mm : Nat) (hm : v 2 0 = nI mm) (hmb : mm ≤ 10) (s1 : Nat) (hs1 : s1 < 1024) : WrV l yX1_planFor wsX1_planFor (rmK 1) D cI cZ cC [.ref (ad 3), .int (nI s1)] (wW cI ad v) (wW cI ad (fX1_planFor v mm s1)) := by
  refine WrV.of (cc := cX1_planFor) (maxL := 6) (by decide) rfl (Nat.le_of_ble_eq_true rfl) ?_
  intro p e s m args below meth c Q A ls hx hb hml hts hown hK hP hD hS hA hret hl
  have hl : lv_has ls 6 [(0, .ref (ad 3)), (1, .int (nI s1))] := hl
  have hinX1 : ∀ w ∈ u_ws RX1 TX1 13, w ∈ wsX1_planFor := (fun w h => List.mem_cons_of_mem _ (List.mem_append_right _ h))
  refine lv_aload_n hx hb dX1_planFor_0 rfl (lv_at hl 0 rfl) ?_
  refine lv_iconst (v := (-1)) hx hb dX1_planFor_1 (by decide) ?_
  refine va_put (D := D) (ci := 1) (v := .int (-1)) (ty := .int) (C := RX1) (T := TX1) (N := 13) hx hb hts hinX1 tyX1 tyX1_ok nmX1 hown hK hP hD hS 0 rfl rfl 8 (by decide) (hts (.fieldLink RX1 37 "TroubleCodes$Workshop" "firstTest" "I") (mem_at 1 rfl)) (fun _ h9 => h9) rfl (by decide +kernel) rfl rfl (Nat.le_of_ble_eq_true rfl) dX1_planFor_2 (fun H locs hP hD hS => ?_)
  have hP : va_P D vwCl (wW cI ad (va_up v 8 (fun _ => (-1)))) H := hP
  have hD : va_D A (wW cI ad (va_up v 8 (fun _ => (-1)))) := hD
  refine lv_iconst (v := 0) hx hb dX1_planFor_5 (by decide) ?_
  refine lv_istore_n (lv' := [(2, .int 0), (0, .ref (ad 3)), (1, .int (nI s1))]) hx hb dX1_planFor_6 rfl hl (by decide) rfl (fun ls hl => ?_)
  refine lv_iconst (v := 0) hx hb dX1_planFor_7 (by decide) ?_
  refine lv_istore_n (lv' := [(3, .int 0), (2, .int 0), (0, .ref (ad 3)), (1, .int (nI s1))]) hx hb dX1_planFor_8 rfl hl (by decide) rfl (fun ls hl => ?_)
  have LOOP_1 : ∀ (fu i : Nat), i ≤ mm → mm - i < fu → ∀ (H : Heap) (locs : List Loc) (ls : Array Slot), va_P D vwCl (wW cI ad (va_up v 8 (fun _ => (pfI (v 1) (v 6) (v 7) s1 i).2))) H → va_D A (wW cI ad (va_up v 8 (fun _ => (pfI (v 1) (v 6) (v 7) s1 i).2))) → va_S A s.heap H locs → lv_has ls 6 [(0, .ref (ad 3)), (1, .int (nI s1)), (2, .int ((pfI (v 1) (v 6) (v 7) s1 i).1)), (3, .int (nI i))] → W p l e (rmK 1) s m args below meth c H locs 0 0 Q (F0 m 9 ls []) := by
    intro fu
    induction fu with
    | zero => intro i h1 h2; exact absurd h2 (Nat.not_lt_zero _)
    | succ fu ih =>
      intro i hkn hfu  H locs ls hP hD hS hl
      refine lv_iload_n hx hb dX1_planFor_9 rfl (lv_at hl 3 rfl) ?_
      refine lv_aload_n hx hb dX1_planFor_10 rfl (lv_at hl 0 rfl) ?_
      refine va_get (D := D) (ci := 1) (v := .int (v 2 0)) (C := RX1) (T := TX1) (N := 13) hx hb hts hinX1 hown hK hP 0 rfl rfl 2 (by decide) (hts (.fieldLink RX1 18 "TroubleCodes$Workshop" "causeCount" "I") (mem_at 2 rfl)) (fun _ h9 => h9) rfl dX1_planFor_11 ?_
      refine lv_icmp_ge (tgt := 103) hx hb dX1_planFor_14 (by decide) (fun c_2 => ?_) (fun c_2 => ?_)
      · have ekn : mm = i := Nat.le_antisymm (kx_ge hm (by omega) (by omega) c_2) hkn
        subst ekn
        refine lv_aload_n hx hb dX1_planFor_103 rfl (lv_at hl 0 rfl) ?_
        refine va_get (D := D) (ci := 1) (v := .ref (ad 9)) (C := RX1) (T := TX1) (N := 13) hx hb hts hinX1 hown hK hP 0 rfl rfl 7 (by decide) (hts (.fieldLink RX1 34 "TroubleCodes$Workshop" "sums" "[I") (mem_at 5 rfl)) (fun _ h9 => h9) rfl dX1_planFor_104 ?_
        refine lv_iload_n hx hb dX1_planFor_107 rfl (lv_at hl 1 rfl) ?_
        refine lv_iload_n hx hb dX1_planFor_108 rfl (lv_at hl 2 rfl) ?_
        refine x_iast (k := s1) (f := v 7) (x := (pfI (v 1) (v 6) (v 7) s1 mm).1) hx hb hK hP hD hS 6 rfl (by omega) (by decide) dX1_planFor_109 (fun H locs hP hD hS => ?_)
        have hP : va_P D vwCl (wW cI ad (va_up (va_up v 7 (upd (v 7) s1 ((pfI (v 1) (v 6) (v 7) s1 mm).1))) 8 (fun _ => (pfI (v 1) (v 6) (v 7) s1 mm).2))) H := hP
        have hD : va_D A (wW cI ad (va_up (va_up v 7 (upd (v 7) s1 ((pfI (v 1) (v 6) (v 7) s1 mm).1))) 8 (fun _ => (pfI (v 1) (v 6) (v 7) s1 mm).2))) := hD
        exact hret 110 _ _ _ hP hD hS dX1_planFor_110
      · have him : i < mm := kx_lt hm (by omega) (by omega) c_2
        obtain ⟨pa, pb, hpl⟩ : ∃ pa pb, pfI (v 1) (v 6) (v 7) s1 i = (pa, pb) := ⟨_, _, rfl⟩
        rw [hpl] at hP hD hl
        have hP : va_P D vwCl (wW cI ad (va_up v 8 (fun _ => pb))) H := hP
        have hD : va_D A (wW cI ad (va_up v 8 (fun _ => pb))) := hD
        have hl : lv_has ls 6 [(0, .ref (ad 3)), (1, .int (nI s1)), (2, .int pa), (3, .int (nI i))] := hl
        refine lv_iload_n hx hb dX1_planFor_17 rfl (lv_at hl 1 rfl) ?_
        refine lv_aload_n hx hb dX1_planFor_18 rfl (lv_at hl 0 rfl) ?_
        refine va_get (D := D) (ci := 1) (v := .ref (ad 8)) (C := RX1) (T := TX1) (N := 13) hx hb hts hinX1 hown hK hP 0 rfl rfl 6 (by decide) (hts (.fieldLink RX1 31 "TroubleCodes$Workshop" "holders" "[I") (mem_at 3 rfl)) (fun _ h9 => h9) rfl dX1_planFor_19 ?_
        refine lv_iload_n hx hb dX1_planFor_22 rfl (lv_at hl 3 rfl) ?_
        refine x_iald (k := i) (f := v 6) hx hb hK hP 5 rfl (by omega) (by decide) dX1_planFor_23 ?_
        refine lv_iand hx hb dX1_planFor_24 ?_
        obtain ⟨th, hth, eth⟩ := andle s1 (v 6 i)
        have xth : ix (nI s1 &&& v 6 i) = th := by rw [eth]; exact ix_nI (by omega)
        rw [eth]
        refine lv_istore (lv' := [(4, .int (nI th)), (0, .ref (ad 3)), (1, .int (nI s1)), (2, .int pa), (3, .int (nI i))]) hx hb dX1_planFor_25 hl (by decide) rfl (fun ls hl => ?_)
        refine lv_iload hx hb dX1_planFor_27 (lv_at hl 0 rfl) ?_
        refine lv_if_eq (tgt := 97) hx hb dX1_planFor_29 (by decide) (fun c_3 => ?_) (fun c_3 => ?_)
        · refine lv_iinc (v := nI (i + 1)) (lv' := [(3, .int (nI (i + 1))), (4, .int (nI th)), (0, .ref (ad 3)), (1, .int (nI s1)), (2, .int pa)]) hx hb dX1_planFor_97 hl (k := 4) rfl (nI_1 _) (by decide) rfl (fun ls hl => ?_)
          refine lv_goto (tgt := 9) hx hb dX1_planFor_100 (by decide) ?_
          have hq_4 : pfI (v 1) (v 6) (v 7) s1 (i + 1) = (pa, pb) := by rw [pfI, xth, if_neg (fun h => h.1 ((nI_eq (b := 0) (by omega) (by decide)).mp c_3)), hpl]
          have q_5 : va_up v 8 (fun _ => (pfI (v 1) (v 6) (v 7) s1 (i + 1)).2) = va_up v 8 (fun _ => pb) := by rw [hq_4]
          exact ih (i + 1) (by omega) (by omega) H locs ls (by rw [q_5]; exact hP) (by rw [q_5]; exact hD) hS (by rw [hq_4]; exact lv_sub hl [2, 3, 4, 0] rfl)
        · refine lv_iload hx hb dX1_planFor_32 (lv_at hl 0 rfl) ?_
          refine lv_iload_n hx hb dX1_planFor_34 rfl (lv_at hl 2 rfl) ?_
          refine lv_icmp_ne (tgt := 41) hx hb dX1_planFor_35 (by decide) (fun c_6 => ?_) (fun c_6 => ?_)
          · refine lv_aload_n hx hb dX1_planFor_41 rfl (lv_at hl 1 rfl) ?_
            refine va_get (D := D) (ci := 1) (v := .ref (ad 5)) (C := RX1) (T := TX1) (N := 13) hx hb hts hinX1 hown hK hP 0 rfl rfl 1 (by decide) (hts (.fieldLink RX1 15 "TroubleCodes$Workshop" "prices" "[I") (mem_at 4 rfl)) (fun _ h9 => h9) rfl dX1_planFor_42 ?_
            refine lv_iload_n hx hb dX1_planFor_45 rfl (lv_at hl 4 rfl) ?_
            refine x_iald (k := i) (f := v 1) hx hb hK hP 2 rfl (by omega) (by decide) dX1_planFor_46 ?_
            refine lv_iload_n hx hb dX1_planFor_47 rfl (lv_at hl 2 rfl) ?_
            refine x_rdS (As := [.int (nI s1)]) (rest := [.int (v 1 i)]) ⟨hx, hb, hml, hown, hts⟩ (tJ6_bitCount_0f7a4 l D cI cZ cC s1 (by omega)) (va_cwS 1 hts gX1_planFor_J6_bitCount_0f7a4 rfl rfl rfl (by decide +kernel) ⟨Nat.le_of_ble_eq_true rfl, Nat.le_of_ble_eq_true rfl⟩) hK trivial rfl hl.1 rfl (Nat.le_of_ble_eq_true rfl) dX1_planFor_48 ⟨Nat.le_of_ble_eq_true rfl, Nat.le_of_ble_eq_true rfl⟩ (fun r_7 er_7 => ?_)
            have er_7 : r_7 = nI (popG 16 s1) := er_7
            subst er_7
            refine lv_imul hx hb dX1_planFor_51 ?_
            refine lv_aload_n hx hb dX1_planFor_52 rfl (lv_at hl 1 rfl) ?_
            refine va_get (D := D) (ci := 1) (v := .ref (ad 9)) (C := RX1) (T := TX1) (N := 13) hx hb hts hinX1 hown hK hP 0 rfl rfl 7 (by decide) (hts (.fieldLink RX1 34 "TroubleCodes$Workshop" "sums" "[I") (mem_at 5 rfl)) (fun _ h9 => h9) rfl dX1_planFor_53 ?_
            refine lv_iload hx hb dX1_planFor_56 (lv_at hl 0 rfl) ?_
            refine x_iald (k := th) (f := v 7) hx hb hK hP 6 rfl (by omega) (by decide) dX1_planFor_58 ?_
            refine lv_iadd hx hb dX1_planFor_59 ?_
            refine lv_aload_n hx hb dX1_planFor_60 rfl (lv_at hl 1 rfl) ?_
            refine va_get (D := D) (ci := 1) (v := .ref (ad 9)) (C := RX1) (T := TX1) (N := 13) hx hb hts hinX1 hown hK hP 0 rfl rfl 7 (by decide) (hts (.fieldLink RX1 34 "TroubleCodes$Workshop" "sums" "[I") (mem_at 5 rfl)) (fun _ h9 => h9) rfl dX1_planFor_61 ?_
            refine lv_iload_n hx hb dX1_planFor_64 rfl (lv_at hl 2 rfl) ?_
            refine lv_iload hx hb dX1_planFor_65 (lv_at hl 0 rfl) ?_
            refine lv_isub hx hb dX1_planFor_67 ?_
            rw [pk_sub hth]
            refine x_iald (k := (s1 - th)) (f := v 7) hx hb hK hP 6 rfl (by omega) (by decide) dX1_planFor_68 ?_
            refine lv_iadd hx hb dX1_planFor_69 ?_
            refine lv_istore (lv' := [(5, .int ((((v 1 i) * (nI (popG 16 s1))) + (v 7 th)) + (v 7 (s1 - th)))), (4, .int (nI th)), (0, .ref (ad 3)), (1, .int (nI s1)), (2, .int pa), (3, .int (nI i))]) hx hb dX1_planFor_70 hl (by decide) rfl (fun ls hl => ?_)
            refine lv_aload_n hx hb dX1_planFor_72 rfl (lv_at hl 2 rfl) ?_
            refine va_get (D := D) (ci := 1) (v := .int pb) (C := RX1) (T := TX1) (N := 13) hx hb hts hinX1 hown hK hP 0 rfl rfl 8 (by decide) (hts (.fieldLink RX1 37 "TroubleCodes$Workshop" "firstTest" "I") (mem_at 1 rfl)) (fun _ h9 => h9) rfl dX1_planFor_73 ?_
            refine lv_iconst (v := (-1)) hx hb dX1_planFor_76 (by decide) ?_
            refine lv_icmp_eq (tgt := 89) hx hb dX1_planFor_77 (by decide) (fun c_8 => ?_) (fun c_8 => ?_)
            · refine lv_iload hx hb dX1_planFor_89 (lv_at hl 0 rfl) ?_
              refine lv_istore_n (lv' := [(2, .int ((((v 1 i) * (nI (popG 16 s1))) + (v 7 th)) + (v 7 (s1 - th)))), (5, .int ((((v 1 i) * (nI (popG 16 s1))) + (v 7 th)) + (v 7 (s1 - th)))), (4, .int (nI th)), (0, .ref (ad 3)), (1, .int (nI s1)), (3, .int (nI i))]) hx hb dX1_planFor_91 rfl hl (by decide) rfl (fun ls hl => ?_)
              refine lv_aload_n hx hb dX1_planFor_92 rfl (lv_at hl 3 rfl) ?_
              refine lv_iload_n hx hb dX1_planFor_93 rfl (lv_at hl 5 rfl) ?_
              refine va_put (D := D) (ci := 1) (v := .int (nI i)) (ty := .int) (C := RX1) (T := TX1) (N := 13) hx hb hts hinX1 tyX1 tyX1_ok nmX1 hown hK hP hD hS 0 rfl rfl 8 (by decide) (hts (.fieldLink RX1 37 "TroubleCodes$Workshop" "firstTest" "I") (mem_at 1 rfl)) (fun _ h9 => h9) rfl (by decide +kernel) rfl rfl (Nat.le_of_ble_eq_true rfl) dX1_planFor_94 (fun H locs hP hD hS => ?_)
              have hP : va_P D vwCl (wW cI ad (va_up v 8 (fun _ => nI i))) H := hP
              have hD : va_D A (wW cI ad (va_up v 8 (fun _ => nI i))) := hD
              refine lv_iinc (v := nI (i + 1)) (lv' := [(3, .int (nI (i + 1))), (2, .int ((((v 1 i) * (nI (popG 16 s1))) + (v 7 th)) + (v 7 (s1 - th)))), (5, .int ((((v 1 i) * (nI (popG 16 s1))) + (v 7 th)) + (v 7 (s1 - th)))), (4, .int (nI th)), (0, .ref (ad 3)), (1, .int (nI s1))]) hx hb dX1_planFor_97 hl (k := 5) rfl (nI_1 _) (by decide) rfl (fun ls hl => ?_)
              refine lv_goto (tgt := 9) hx hb dX1_planFor_100 (by decide) ?_
              have hq_9 : pfI (v 1) (v 6) (v 7) s1 (i + 1) = ((v 1 i * nI (popG 16 s1) + v 7 th + v 7 (s1 - th)), nI i) := by rw [pfI, xth, if_pos ⟨(fun h => c_3 (by rw [h]; rfl)), (fun h => c_6 (by rw [h])), Or.inl (by rw [hpl]; exact c_8)⟩]
              have q_10 : va_up v 8 (fun _ => (pfI (v 1) (v 6) (v 7) s1 (i + 1)).2) = va_up v 8 (fun _ => nI i) := by rw [hq_9]
              exact ih (i + 1) (by omega) (by omega) H locs ls (by rw [q_10]; exact hP) (by rw [q_10]; exact hD) hS (by rw [hq_9]; exact lv_sub hl [4, 5, 1, 0] rfl)
            · refine lv_iload hx hb dX1_planFor_80 (lv_at hl 0 rfl) ?_
              refine lv_iload_n hx hb dX1_planFor_82 rfl (lv_at hl 4 rfl) ?_
              refine lv_icmp_lt (tgt := 89) hx hb dX1_planFor_83 (by decide) (fun c_11 => ?_) (fun c_11 => ?_)
              · refine lv_iload hx hb dX1_planFor_89 (lv_at hl 0 rfl) ?_
                refine lv_istore_n (lv' := [(2, .int ((((v 1 i) * (nI (popG 16 s1))) + (v 7 th)) + (v 7 (s1 - th)))), (5, .int ((((v 1 i) * (nI (popG 16 s1))) + (v 7 th)) + (v 7 (s1 - th)))), (4, .int (nI th)), (0, .ref (ad 3)), (1, .int (nI s1)), (3, .int (nI i))]) hx hb dX1_planFor_91 rfl hl (by decide) rfl (fun ls hl => ?_)
                refine lv_aload_n hx hb dX1_planFor_92 rfl (lv_at hl 3 rfl) ?_
                refine lv_iload_n hx hb dX1_planFor_93 rfl (lv_at hl 5 rfl) ?_
                refine va_put (D := D) (ci := 1) (v := .int (nI i)) (ty := .int) (C := RX1) (T := TX1) (N := 13) hx hb hts hinX1 tyX1 tyX1_ok nmX1 hown hK hP hD hS 0 rfl rfl 8 (by decide) (hts (.fieldLink RX1 37 "TroubleCodes$Workshop" "firstTest" "I") (mem_at 1 rfl)) (fun _ h9 => h9) rfl (by decide +kernel) rfl rfl (Nat.le_of_ble_eq_true rfl) dX1_planFor_94 (fun H locs hP hD hS => ?_)
                have hP : va_P D vwCl (wW cI ad (va_up v 8 (fun _ => nI i))) H := hP
                have hD : va_D A (wW cI ad (va_up v 8 (fun _ => nI i))) := hD
                refine lv_iinc (v := nI (i + 1)) (lv' := [(3, .int (nI (i + 1))), (2, .int ((((v 1 i) * (nI (popG 16 s1))) + (v 7 th)) + (v 7 (s1 - th)))), (5, .int ((((v 1 i) * (nI (popG 16 s1))) + (v 7 th)) + (v 7 (s1 - th)))), (4, .int (nI th)), (0, .ref (ad 3)), (1, .int (nI s1))]) hx hb dX1_planFor_97 hl (k := 5) rfl (nI_1 _) (by decide) rfl (fun ls hl => ?_)
                refine lv_goto (tgt := 9) hx hb dX1_planFor_100 (by decide) ?_
                have hq_12 : pfI (v 1) (v 6) (v 7) s1 (i + 1) = ((v 1 i * nI (popG 16 s1) + v 7 th + v 7 (s1 - th)), nI i) := by rw [pfI, xth, if_pos ⟨(fun h => c_3 (by rw [h]; rfl)), (fun h => c_6 (by rw [h])), Or.inr (by rw [hpl]; exact c_11)⟩]
                have q_13 : va_up v 8 (fun _ => (pfI (v 1) (v 6) (v 7) s1 (i + 1)).2) = va_up v 8 (fun _ => nI i) := by rw [hq_12]
                exact ih (i + 1) (by omega) (by omega) H locs ls (by rw [q_13]; exact hP) (by rw [q_13]; exact hD) hS (by rw [hq_12]; exact lv_sub hl [4, 5, 1, 0] rfl)
              · refine lv_goto (tgt := 97) hx hb dX1_planFor_86 (by decide) ?_
                refine lv_iinc (v := nI (i + 1)) (lv' := [(3, .int (nI (i + 1))), (5, .int ((((v 1 i) * (nI (popG 16 s1))) + (v 7 th)) + (v 7 (s1 - th)))), (4, .int (nI th)), (0, .ref (ad 3)), (1, .int (nI s1)), (2, .int pa)]) hx hb dX1_planFor_97 hl (k := 5) rfl (nI_1 _) (by decide) rfl (fun ls hl => ?_)
                refine lv_goto (tgt := 9) hx hb dX1_planFor_100 (by decide) ?_
                have hq_14 : pfI (v 1) (v 6) (v 7) s1 (i + 1) = (pa, pb) := by rw [pfI, xth, if_neg (fun h => h.2.2.elim (fun h => c_8 (by rw [hpl] at h; exact h)) (fun h => c_11 (by rw [hpl] at h; exact h))), hpl]
                have q_15 : va_up v 8 (fun _ => (pfI (v 1) (v 6) (v 7) s1 (i + 1)).2) = va_up v 8 (fun _ => pb) := by rw [hq_14]
                exact ih (i + 1) (by omega) (by omega) H locs ls (by rw [q_15]; exact hP) (by rw [q_15]; exact hD) hS (by rw [hq_14]; exact lv_sub hl [3, 4, 5, 0] rfl)
          · refine lv_goto (tgt := 97) hx hb dX1_planFor_38 (by decide) ?_
            refine lv_iinc (v := nI (i + 1)) (lv' := [(3, .int (nI (i + 1))), (4, .int (nI th)), (0, .ref (ad 3)), (1, .int (nI s1)), (2, .int pa)]) hx hb dX1_planFor_97 hl (k := 4) rfl (nI_1 _) (by decide) rfl (fun ls hl => ?_)
            refine lv_goto (tgt := 9) hx hb dX1_planFor_100 (by decide) ?_
            have hq_16 : pfI (v 1) (v 6) (v 7) s1 (i + 1) = (pa, pb) := by rw [pfI, xth, if_neg (fun h => h.2.1 ((nI_eq (by omega) (by omega)).mp c_6)), hpl]
            have q_17 : va_up v 8 (fun _ => (pfI (v 1) (v 6) (v 7) s1 (i + 1)).2) = va_up v 8 (fun _ => pb) := by rw [hq_16]
            exact ih (i + 1) (by omega) (by omega) H locs ls (by rw [q_17]; exact hP) (by rw [q_17]; exact hD) hS (by rw [hq_16]; exact lv_sub hl [2, 3, 4, 0] rfl)
  have q_18 : ((pfI (v 1) (v 6) (v 7) s1 0).1 : Int32) = 0 := by rfl
  have q_19 : (nI 0 : Int32) = 0 := by rfl
  exact LOOP_1 (mm - 0 + 1) 0 (Nat.zero_le _) (Nat.lt_succ_self _) _ _ ls (by skip; exact hP) (by skip; exact hD) hS (by rw [q_18, q_19]; exact lv_sub hl [2, 3, 1, 0] rfl)

def mpS (v : Nat → Nat → Int32) (mm L : Nat) : (Nat → Int32) × Int32 := mpF (v 1) (fil (fun z => hoF (v 4) z L) (v 6) mm) mm (v 7) (v 8 0) (2 ^ L - 1)
def fX1_makePlan (v : Nat → Nat → Int32) (mm L : Nat) : Nat → Nat → Int32 := if v 12 0 = 0 then va_up (va_up (va_up (va_up v 6 (fil (fun z => hoF (v 4) z L) (v 6) mm)) 7 (mpS v mm L).1) 8 (fun _ => (mpS v mm L).2)) 12 (fun _ => 1) else v

set_option maxHeartbeats 4000000 in
set_option maxRecDepth 100000 in
theorem tX1_makePlan (l : Launch) (D : va_G) (cI cZ cC : ClassId) (ad : Nat → Nat) (v : Nat → Nat → Int32) (mm : Nat) (hm : v 2 0 = nI mm) (hmb : mm ≤ 10) (L : Nat) (hL : v 5 0 = nI L) (hLb : L ≤ 10) : WrV l yX1_makePlan wsX1_makePlan (rmK 2) D cI cZ cC [.ref (ad 3)] (wW cI ad v) (wW cI ad (fX1_makePlan v mm L)) := by
  refine WrV.of (cc := cX1_makePlan) (maxL := 2) (by decide) rfl (Nat.le_of_ble_eq_true rfl) ?_
  intro p e s m args below meth c Q A ls hx hb hml hts hown hK hP hD hS hA hret hl
  have hl : lv_has ls 2 [(0, .ref (ad 3))] := hl
  have hpw := pow_le10 hLb
  have hinX1 : ∀ w ∈ u_ws RX1 TX1 13, w ∈ wsX1_makePlan := (fun w h => List.mem_cons_of_mem _ (List.mem_append_right _ h))
  refine lv_aload_n hx hb dX1_makePlan_0 rfl (lv_at hl 0 rfl) ?_
  refine va_get (D := D) (ci := 1) (v := .int (v 12 0)) (C := RX1) (T := TX1) (N := 13) hx hb hts hinX1 hown hK hP 0 rfl rfl 12 (by decide) (hts (.fieldLink RX1 49 "TroubleCodes$Workshop" "planned" "Z") (mem_at 1 rfl)) (fun _ h9 => h9) rfl dX1_makePlan_1 ?_
  refine lv_if_eq (tgt := 8) hx hb dX1_makePlan_4 (by decide) (fun c_1 => ?_) (fun c_1 => ?_)
  · refine lv_aload_n hx hb dX1_makePlan_8 rfl (lv_at hl 0 rfl) ?_
    refine lv_iconst (v := 1) hx hb dX1_makePlan_9 (by decide) ?_
    refine va_put (D := D) (ci := 1) (v := .int 1) (ty := .boolean) (C := RX1) (T := TX1) (N := 13) hx hb hts hinX1 tyX1 tyX1_ok nmX1 hown hK hP hD hS 0 rfl rfl 12 (by decide) (hts (.fieldLink RX1 49 "TroubleCodes$Workshop" "planned" "Z") (mem_at 1 rfl)) (fun _ h9 => h9) rfl (by decide +kernel) rfl rfl (Nat.le_of_ble_eq_true rfl) dX1_makePlan_10 (fun H locs hP hD hS => ?_)
    have hP : va_P D vwCl (wW cI ad (va_up v 12 (fun _ => 1))) H := hP
    have hD : va_D A (wW cI ad (va_up v 12 (fun _ => 1))) := hD
    refine lv_iconst (v := 0) hx hb dX1_makePlan_13 (by decide) ?_
    refine lv_istore_n (lv' := [(1, .int 0), (0, .ref (ad 3))]) hx hb dX1_makePlan_14 rfl hl (by decide) rfl (fun ls hl => ?_)
    have LOOP_2 : ∀ (fu i : Nat), i ≤ mm → mm - i < fu → ∀ (H : Heap) (locs : List Loc) (ls : Array Slot), va_P D vwCl (wW cI ad (va_up (va_up v 6 (fil (fun z => hoF (v 4) z L) (v 6) i)) 12 (fun _ => 1))) H → va_D A (wW cI ad (va_up (va_up v 6 (fil (fun z => hoF (v 4) z L) (v 6) i)) 12 (fun _ => 1))) → va_S A s.heap H locs → lv_has ls 2 [(0, .ref (ad 3)), (1, .int (nI i))] → W p l e (rmK 2) s m args below meth c H locs 0 0 Q (F0 m 15 ls []) := by
      intro fu
      induction fu with
      | zero => intro i h1 h2; exact absurd h2 (Nat.not_lt_zero _)
      | succ fu ih =>
        intro i hkn hfu  H locs ls hP hD hS hl
        refine lv_iload_n hx hb dX1_makePlan_15 rfl (lv_at hl 1 rfl) ?_
        refine lv_aload_n hx hb dX1_makePlan_16 rfl (lv_at hl 0 rfl) ?_
        refine va_get (D := D) (ci := 1) (v := .int (v 2 0)) (C := RX1) (T := TX1) (N := 13) hx hb hts hinX1 hown hK hP 0 rfl rfl 2 (by decide) (hts (.fieldLink RX1 18 "TroubleCodes$Workshop" "causeCount" "I") (mem_at 2 rfl)) (fun _ h9 => h9) rfl dX1_makePlan_17 ?_
        refine lv_icmp_ge (tgt := 40) hx hb dX1_makePlan_20 (by decide) (fun c_3 => ?_) (fun c_3 => ?_)
        · have ekn : mm = i := Nat.le_antisymm (kx_ge hm (by omega) (by omega) c_3) hkn
          subst ekn
          refine lv_iconst (v := 1) hx hb dX1_makePlan_40 (by decide) ?_
          refine lv_istore_n (lv' := [(1, .int 1), (0, .ref (ad 3))]) hx hb dX1_makePlan_41 rfl hl (by decide) rfl (fun ls hl => ?_)
          have LOOP_4 : ∀ (fu k : Nat), k ≤ 2 ^ L - 1 → 2 ^ L - 1 - k < fu → ∀ (H : Heap) (locs : List Loc) (ls : Array Slot), va_P D vwCl (wW cI ad (va_up (va_up (va_up (va_up v 6 (fil (fun z => hoF (v 4) z L) (v 6) mm)) 7 ((mpF (v 1) (fil (fun z => hoF (v 4) z L) (v 6) mm) mm (v 7) (v 8 0) k).1)) 8 (fun _ => (mpF (v 1) (fil (fun z => hoF (v 4) z L) (v 6) mm) mm (v 7) (v 8 0) k).2)) 12 (fun _ => 1))) H → va_D A (wW cI ad (va_up (va_up (va_up (va_up v 6 (fil (fun z => hoF (v 4) z L) (v 6) mm)) 7 ((mpF (v 1) (fil (fun z => hoF (v 4) z L) (v 6) mm) mm (v 7) (v 8 0) k).1)) 8 (fun _ => (mpF (v 1) (fil (fun z => hoF (v 4) z L) (v 6) mm) mm (v 7) (v 8 0) k).2)) 12 (fun _ => 1))) → va_S A s.heap H locs → lv_has ls 2 [(0, .ref (ad 3)), (1, .int (nI (k + 1)))] → W p l e (rmK 2) s m args below meth c H locs 0 0 Q (F0 m 42 ls []) := by
            intro fu
            induction fu with
            | zero => intro k h1 h2; exact absurd h2 (Nat.not_lt_zero _)
            | succ fu ih =>
              intro k hkn hfu  H locs ls hP hD hS hl
              refine lv_iload_n hx hb dX1_makePlan_42 rfl (lv_at hl 1 rfl) ?_
              refine lv_aload_n hx hb dX1_makePlan_43 rfl (lv_at hl 0 rfl) ?_
              refine x_rdV (As := []) (rest := [.int (nI (k + 1))]) ⟨hx, hb, hml, hown, hts⟩ (tX1_allLeast l D cI cZ cC ad (va_up (va_up (va_up (va_up v 6 (fil (fun z => hoF (v 4) z L) (v 6) mm)) 7 ((mpF (v 1) (fil (fun z => hoF (v 4) z L) (v 6) mm) mm (v 7) (v 8 0) k).1)) 8 (fun _ => (mpF (v 1) (fil (fun z => hoF (v 4) z L) (v 6) mm) mm (v 7) (v 8 0) k).2)) 12 (fun _ => 1))) (cwV 0 hts gX1_makePlan_X1_allLeast rfl rfl rfl (by decide +kernel) ⟨Nat.le_of_ble_eq_true rfl, Nat.le_of_ble_eq_true rfl⟩) hK (x_recv (ci := 1) hK hP rfl (q0 := 0) rfl) hP rfl hl.1 rfl (Nat.le_of_ble_eq_true rfl) dX1_makePlan_44 ⟨Nat.le_of_ble_eq_true rfl, Nat.le_of_ble_eq_true rfl⟩ (fun r_5 er_5 => ?_)
              have er_5 : r_5 = (1 <<< ((v 5 0) &&& 31)) - 1 := er_5
              subst er_5
              rw [hL, shl1L hLb]
              refine lv_icmp_gt (tgt := 61) hx hb dX1_makePlan_47 (by decide) (fun c_6 => ?_) (fun c_6 => ?_)
              · have ekn : 2 ^ L - 1 = k := Nat.le_antisymm (by have := (nI_ltI (by omega) (by omega)).mp c_6; omega) hkn
                subst ekn
                have es : fX1_makePlan v mm L = va_up (va_up (va_up (va_up v 6 (fil (fun z => hoF (v 4) z L) (v 6) mm)) 7 ((mpF (v 1) (fil (fun z => hoF (v 4) z L) (v 6) mm) mm (v 7) (v 8 0) (2 ^ L - 1)).1)) 8 (fun _ => (mpF (v 1) (fil (fun z => hoF (v 4) z L) (v 6) mm) mm (v 7) (v 8 0) (2 ^ L - 1)).2)) 12 (fun _ => 1) := by rw [fX1_makePlan]; rw [if_pos c_1]; rfl
                exact hret 61 _ _ _ (by rw [es]; exact hP) (by rw [es]; exact hD) hS dX1_makePlan_61
              · have hkl : k < 2 ^ L - 1 := Nat.lt_of_not_le (fun h => c_6 ((nI_ltI (by omega) (by omega)).mpr (by omega)))
                obtain ⟨S, hSe⟩ : ∃ S, S = (mpF (v 1) (fil (fun z => hoF (v 4) z L) (v 6) mm) mm (v 7) (v 8 0) k).1 := ⟨_, rfl⟩
                rw [← hSe] at hP hD
                refine lv_aload_n hx hb dX1_makePlan_50 rfl (lv_at hl 0 rfl) ?_
                refine lv_iload_n hx hb dX1_makePlan_51 rfl (lv_at hl 1 rfl) ?_
                refine x_wvW (As := [.int (nI (k + 1))]) (rest := []) ⟨hx, hb, hml, hown, hts⟩ (tX1_planFor l D cI cZ cC ad (va_up (va_up (va_up (va_up v 6 (fil (fun z => hoF (v 4) z L) (v 6) mm)) 7 S) 8 (fun _ => (mpF (v 1) (fil (fun z => hoF (v 4) z L) (v 6) mm) mm (v 7) (v 8 0) k).2)) 12 (fun _ => 1)) mm hm hmb (k + 1) (by omega)) (cwV 1 hts gX1_makePlan_X1_planFor rfl rfl rfl (by decide +kernel) ⟨Nat.le_of_ble_eq_true rfl, Nat.le_of_ble_eq_true rfl⟩) hK (x_recv (ci := 1) hK hP rfl (q0 := 0) rfl) hP hD hS hA rfl hl.1 rfl (Nat.le_of_ble_eq_true rfl) dX1_makePlan_52 ⟨Nat.le_of_ble_eq_true rfl, Nat.le_of_ble_eq_true rfl⟩ (fun H locs hP hD hS => ?_)
                have hP : va_P D vwCl (wW cI ad (va_up (va_up (va_up (va_up v 6 (fil (fun z => hoF (v 4) z L) (v 6) mm)) 7 (upd S (k + 1) (pfI (v 1) (fil (fun z => hoF (v 4) z L) (v 6) mm) S (k + 1) mm).1)) 8 (fun _ => (pfI (v 1) (fil (fun z => hoF (v 4) z L) (v 6) mm) S (k + 1) mm).2)) 12 (fun _ => 1))) H := hP
                have hD : va_D A (wW cI ad (va_up (va_up (va_up (va_up v 6 (fil (fun z => hoF (v 4) z L) (v 6) mm)) 7 (upd S (k + 1) (pfI (v 1) (fil (fun z => hoF (v 4) z L) (v 6) mm) S (k + 1) mm).1)) 8 (fun _ => (pfI (v 1) (fil (fun z => hoF (v 4) z L) (v 6) mm) S (k + 1) mm).2)) 12 (fun _ => 1))) := hD
                refine lv_iinc (v := (nI (k + 1)) + 1) (lv' := [(1, .int ((nI (k + 1)) + 1)), (0, .ref (ad 3))]) hx hb dX1_makePlan_55 hl (k := 1) rfl rfl (by decide) rfl (fun ls hl => ?_)
                refine lv_goto (tgt := 42) hx hb dX1_makePlan_58 (by decide) ?_
                have q_7 : (nI ((k + 1) + 1) : Int32) = (nI (k + 1)) + 1 := by exact (nI_1 _).symm
                have q_8 : va_up (va_up (va_up (va_up v 6 (fil (fun z => hoF (v 4) z L) (v 6) mm)) 7 ((mpF (v 1) (fil (fun z => hoF (v 4) z L) (v 6) mm) mm (v 7) (v 8 0) (k + 1)).1)) 8 (fun _ => (mpF (v 1) (fil (fun z => hoF (v 4) z L) (v 6) mm) mm (v 7) (v 8 0) (k + 1)).2)) 12 (fun _ => 1) = va_up (va_up (va_up (va_up v 6 (fil (fun z => hoF (v 4) z L) (v 6) mm)) 7 (upd S (k + 1) (pfI (v 1) (fil (fun z => hoF (v 4) z L) (v 6) mm) S (k + 1) mm).1)) 8 (fun _ => (pfI (v 1) (fil (fun z => hoF (v 4) z L) (v 6) mm) S (k + 1) mm).2)) 12 (fun _ => 1) := by rw [mpF, ← hSe]
                exact ih (k + 1) (by omega) (by omega) H locs ls (by rw [q_8]; exact hP) (by rw [q_8]; exact hD) hS (by rw [q_7]; exact lv_sub hl [1, 0] rfl)
          have q_9 : (nI (0 + 1) : Int32) = 1 := by rfl
          exact LOOP_4 (2 ^ L - 1 - 0 + 1) 0 (Nat.zero_le _) (Nat.lt_succ_self _) _ _ ls (by skip; exact hP) (by skip; exact hD) hS (by rw [q_9]; exact lv_sub hl [1, 0] rfl)
        · have him : i < mm := kx_lt hm (by omega) (by omega) c_3
          refine lv_aload_n hx hb dX1_makePlan_23 rfl (lv_at hl 0 rfl) ?_
          refine va_get (D := D) (ci := 1) (v := .ref (ad 8)) (C := RX1) (T := TX1) (N := 13) hx hb hts hinX1 hown hK hP 0 rfl rfl 6 (by decide) (hts (.fieldLink RX1 31 "TroubleCodes$Workshop" "holders" "[I") (mem_at 3 rfl)) (fun _ h9 => h9) rfl dX1_makePlan_24 ?_
          refine lv_iload_n hx hb dX1_makePlan_27 rfl (lv_at hl 1 rfl) ?_
          refine lv_aload_n hx hb dX1_makePlan_28 rfl (lv_at hl 0 rfl) ?_
          refine lv_iload_n hx hb dX1_makePlan_29 rfl (lv_at hl 1 rfl) ?_
          refine x_rdV (As := [.int (nI i)]) (rest := [.int (nI i), .ref (ad 8)]) ⟨hx, hb, hml, hown, hts⟩ (tX1_holdersOf l D cI cZ cC ad (va_up (va_up v 6 (fil (fun z => hoF (v 4) z L) (v 6) i)) 12 (fun _ => 1)) L hL hLb i) (cwV 1 hts gX1_makePlan_X1_holdersOf rfl rfl rfl (by decide +kernel) ⟨Nat.le_of_ble_eq_true rfl, Nat.le_of_ble_eq_true rfl⟩) hK (x_recv (ci := 1) hK hP rfl (q0 := 0) rfl) hP rfl hl.1 rfl (Nat.le_of_ble_eq_true rfl) dX1_makePlan_30 ⟨Nat.le_of_ble_eq_true rfl, Nat.le_of_ble_eq_true rfl⟩ (fun r_10 er_10 => ?_)
          have er_10 : r_10 = hoF (v 4) i L := er_10
          subst er_10
          refine x_iast (k := i) (f := fil (fun z => hoF (v 4) z L) (v 6) i) (x := hoF (v 4) i L) hx hb hK hP hD hS 5 rfl (by omega) (by decide) dX1_makePlan_33 (fun H locs hP hD hS => ?_)
          have hP : va_P D vwCl (wW cI ad (va_up (va_up v 6 (upd (fil (fun z => hoF (v 4) z L) (v 6) i) i (hoF (v 4) i L))) 12 (fun _ => 1))) H := hP
          have hD : va_D A (wW cI ad (va_up (va_up v 6 (upd (fil (fun z => hoF (v 4) z L) (v 6) i) i (hoF (v 4) i L))) 12 (fun _ => 1))) := hD
          refine lv_iinc (v := nI (i + 1)) (lv' := [(1, .int (nI (i + 1))), (0, .ref (ad 3))]) hx hb dX1_makePlan_34 hl (k := 1) rfl (nI_1 _) (by decide) rfl (fun ls hl => ?_)
          refine lv_goto (tgt := 15) hx hb dX1_makePlan_37 (by decide) ?_
          have q_11 : va_up (va_up v 6 (fil (fun z => hoF (v 4) z L) (v 6) (i + 1))) 12 (fun _ => 1) = va_up (va_up v 6 (upd (fil (fun z => hoF (v 4) z L) (v 6) i) i (hoF (v 4) i L))) 12 (fun _ => 1) := by rw [fil_s]
          exact ih (i + 1) (by omega) (by omega) H locs ls (by rw [q_11]; exact hP) (by rw [q_11]; exact hD) hS (by exact lv_sub hl [1, 0] rfl)
    have q_12 : (nI 0 : Int32) = 0 := by rfl
    exact LOOP_2 (mm - 0 + 1) 0 (Nat.zero_le _) (Nat.lt_succ_self _) _ _ ls (by rw [fil_0]; exact hP) (by rw [fil_0]; exact hD) hS (by rw [q_12]; exact lv_sub hl [1, 0] rfl)
  · have es : fX1_makePlan v mm L = v := by rw [fX1_makePlan]; rw [if_neg c_1]
    exact hret 7 _ _ _ (by rw [es]; exact hP) (by rw [es]; exact hD) hS dX1_makePlan_7

theorem mkp_keep (v : Nat → Nat → Int32) (mm L r : Nat) (h : r < 6) : fX1_makePlan v mm L r = v r := by
  unfold fX1_makePlan
  split
  · simp [va_up, show r ≠ 6 by omega, show r ≠ 7 by omega, show r ≠ 8 by omega, show r ≠ 12 by omega]
  · rfl

def fX1_planSum (v : Nat → Nat → Int32) (mm L : Nat) : Int32 × (Nat → Nat → Int32) := if v 5 0 = 0 then (-1, v) else (fX1_makePlan v mm L 7 (2 ^ L - 1), fX1_makePlan v mm L)
def fX1_planTest (v : Nat → Nat → Int32) (mm L : Nat) : Int32 × (Nat → Nat → Int32) := if v 5 0 = 0 then (-1, v) else (fX1_makePlan v mm L 8 0, fX1_makePlan v mm L)

set_option maxHeartbeats 4000000 in
set_option maxRecDepth 100000 in
theorem tX1_planSum (l : Launch) (D : va_G) (cI cZ cC : ClassId) (ad : Nat → Nat) (v : Nat → Nat → Int32) (mm : Nat) (hm : v 2 0 = nI mm) (hmb : mm ≤ 10) (L : Nat) (hL : v 5 0 = nI L) (hLb : L ≤ 10) : WrI l yX1_planSum wsX1_planSum (rmK 3) D cI cZ cC [.ref (ad 3)] (wW cI ad v) (wW cI ad ((fX1_planSum v mm L).2)) (fun ans => ans = (fX1_planSum v mm L).1) := by
  refine WrI.of (cc := cX1_planSum) (maxL := 1) (ret := .int) (by decide) rfl (Nat.le_of_ble_eq_true rfl) ?_
  intro p e s m args below meth c Q A ls hx hb hml hts hown hK hP hD hS hA hret hl
  have hl : lv_has ls 1 [(0, .ref (ad 3))] := hl
  have hpw := pow_le10 hLb
  have hinX1 : ∀ w ∈ u_ws RX1 TX1 13, w ∈ wsX1_planSum := (fun w h => List.mem_cons_of_mem _ (List.mem_append_right _ h))
  refine lv_aload_n hx hb dX1_planSum_0 rfl (lv_at hl 0 rfl) ?_
  refine va_get (D := D) (ci := 1) (v := .int (v 5 0)) (C := RX1) (T := TX1) (N := 13) hx hb hts hinX1 hown hK hP 0 rfl rfl 5 (by decide) (hts (.fieldLink RX1 28 "TroubleCodes$Workshop" "leastCount" "I") (mem_at 1 rfl)) (fun _ h9 => h9) rfl dX1_planSum_1 ?_
  refine lv_if_ne (tgt := 9) hx hb dX1_planSum_4 (by decide) (fun c_1 => ?_) (fun c_1 => ?_)
  · refine lv_aload_n hx hb dX1_planSum_9 rfl (lv_at hl 0 rfl) ?_
    refine x_wvW (As := []) (rest := []) ⟨hx, hb, hml, hown, hts⟩ (tX1_makePlan l D cI cZ cC ad v mm hm hmb L hL hLb) (cwV 0 hts gX1_planSum_X1_makePlan rfl rfl rfl (by decide +kernel) ⟨Nat.le_of_ble_eq_true rfl, Nat.le_of_ble_eq_true rfl⟩) hK (x_recv (ci := 1) hK hP rfl (q0 := 0) rfl) hP hD hS hA rfl hl.1 rfl (Nat.le_of_ble_eq_true rfl) dX1_planSum_10 ⟨Nat.le_of_ble_eq_true rfl, Nat.le_of_ble_eq_true rfl⟩ (fun H locs hP hD hS => ?_)
    refine lv_aload_n hx hb dX1_planSum_13 rfl (lv_at hl 0 rfl) ?_
    refine va_get (D := D) (ci := 1) (v := .ref (ad 9)) (C := RX1) (T := TX1) (N := 13) hx hb hts hinX1 hown hK hP 0 rfl rfl 7 (by decide) (hts (.fieldLink RX1 34 "TroubleCodes$Workshop" "sums" "[I") (mem_at 2 rfl)) (fun _ h9 => h9) rfl dX1_planSum_14 ?_
    refine lv_aload_n hx hb dX1_planSum_17 rfl (lv_at hl 0 rfl) ?_
    refine x_rdV (As := []) (rest := [.ref (ad 9)]) ⟨hx, hb, hml, hown, hts⟩ (tX1_allLeast l D cI cZ cC ad (fX1_makePlan v mm L)) (cwV 0 hts gX1_planSum_X1_allLeast rfl rfl rfl (by decide +kernel) ⟨Nat.le_of_ble_eq_true rfl, Nat.le_of_ble_eq_true rfl⟩) hK (x_recv (ci := 1) hK hP rfl (q0 := 0) rfl) hP rfl hl.1 rfl (Nat.le_of_ble_eq_true rfl) dX1_planSum_18 ⟨Nat.le_of_ble_eq_true rfl, Nat.le_of_ble_eq_true rfl⟩ (fun r_2 er_2 => ?_)
    have er_2 : r_2 = (1 <<< (((fX1_makePlan v mm L) 5 0) &&& 31)) - 1 := er_2
    subst er_2
    rw [mkp_keep v mm L 5 (by omega), hL, shl1L hLb]
    refine x_iald (k := (2 ^ L - 1)) (f := (fX1_makePlan v mm L) 7) hx hb hK hP 6 rfl (by omega) (by decide) dX1_planSum_21 ?_
    have es : fX1_planSum v mm L = ((fX1_makePlan v mm L) 7 (2 ^ L - 1), (fX1_makePlan v mm L)) := by rw [fX1_planSum]; rw [if_neg c_1]
    exact hret 22 _ _ _ _ (by rw [es]) (by rw [es]; exact hP) (by rw [es]; exact hD) hS rfl dX1_planSum_22
  · refine lv_iconst (v := (-1)) hx hb dX1_planSum_7 (by decide) ?_
    have es : fX1_planSum v mm L = ((-1), v) := by rw [fX1_planSum]; rw [if_pos c_1]
    exact hret 8 _ _ _ _ (by rw [es]) (by rw [es]; exact hP) (by rw [es]; exact hD) hS rfl dX1_planSum_8

set_option maxHeartbeats 4000000 in
set_option maxRecDepth 100000 in
theorem tX1_planTest (l : Launch) (D : va_G) (cI cZ cC : ClassId) (ad : Nat → Nat) (v : Nat → Nat → Int32) (mm : Nat) (hm : v 2 0 = nI mm) (hmb : mm ≤ 10) (L : Nat) (hL : v 5 0 = nI L) (hLb : L ≤ 10) : WrI l yX1_planTest wsX1_planTest (rmK 3) D cI cZ cC [.ref (ad 3)] (wW cI ad v) (wW cI ad ((fX1_planTest v mm L).2)) (fun ans => ans = (fX1_planTest v mm L).1) := by
  refine WrI.of (cc := cX1_planTest) (maxL := 1) (ret := .int) (by decide) rfl (Nat.le_of_ble_eq_true rfl) ?_
  intro p e s m args below meth c Q A ls hx hb hml hts hown hK hP hD hS hA hret hl
  have hl : lv_has ls 1 [(0, .ref (ad 3))] := hl
  have hpw := pow_le10 hLb
  have hinX1 : ∀ w ∈ u_ws RX1 TX1 13, w ∈ wsX1_planTest := (fun w h => List.mem_cons_of_mem _ (List.mem_append_right _ h))
  refine lv_aload_n hx hb dX1_planTest_0 rfl (lv_at hl 0 rfl) ?_
  refine va_get (D := D) (ci := 1) (v := .int (v 5 0)) (C := RX1) (T := TX1) (N := 13) hx hb hts hinX1 hown hK hP 0 rfl rfl 5 (by decide) (hts (.fieldLink RX1 28 "TroubleCodes$Workshop" "leastCount" "I") (mem_at 1 rfl)) (fun _ h9 => h9) rfl dX1_planTest_1 ?_
  refine lv_if_ne (tgt := 9) hx hb dX1_planTest_4 (by decide) (fun c_1 => ?_) (fun c_1 => ?_)
  · refine lv_aload_n hx hb dX1_planTest_9 rfl (lv_at hl 0 rfl) ?_
    refine x_wvW (As := []) (rest := []) ⟨hx, hb, hml, hown, hts⟩ (tX1_makePlan l D cI cZ cC ad v mm hm hmb L hL hLb) (cwV 0 hts gX1_planTest_X1_makePlan rfl rfl rfl (by decide +kernel) ⟨Nat.le_of_ble_eq_true rfl, Nat.le_of_ble_eq_true rfl⟩) hK (x_recv (ci := 1) hK hP rfl (q0 := 0) rfl) hP hD hS hA rfl hl.1 rfl (Nat.le_of_ble_eq_true rfl) dX1_planTest_10 ⟨Nat.le_of_ble_eq_true rfl, Nat.le_of_ble_eq_true rfl⟩ (fun H locs hP hD hS => ?_)
    refine lv_aload_n hx hb dX1_planTest_13 rfl (lv_at hl 0 rfl) ?_
    refine va_get (D := D) (ci := 1) (v := .int ((fX1_makePlan v mm L) 8 0)) (C := RX1) (T := TX1) (N := 13) hx hb hts hinX1 hown hK hP 0 rfl rfl 8 (by decide) (hts (.fieldLink RX1 37 "TroubleCodes$Workshop" "firstTest" "I") (mem_at 2 rfl)) (fun _ h9 => h9) rfl dX1_planTest_14 ?_
    have es : fX1_planTest v mm L = ((fX1_makePlan v mm L) 8 0, (fX1_makePlan v mm L)) := by rw [fX1_planTest]; rw [if_neg c_1]
    exact hret 17 _ _ _ _ (by rw [es]) (by rw [es]; exact hP) (by rw [es]; exact hD) hS rfl dX1_planTest_17
  · refine lv_iconst (v := (-1)) hx hb dX1_planTest_7 (by decide) ?_
    have es : fX1_planTest v mm L = ((-1), v) := by rw [fX1_planTest]; rw [if_pos c_1]
    exact hret 8 _ _ _ _ (by rw [es]) (by rw [es]; exact hP) (by rw [es]; exact hD) hS rfl dX1_planTest_8
