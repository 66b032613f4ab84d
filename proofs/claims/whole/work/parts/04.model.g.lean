theorem shl1a : ∀ m : Fin 17, (1 : Int32) <<< (nI m.val &&& 31) = nI (2 ^ m.val) := by decide
theorem shl1 {m : Nat} (h : m ≤ 16) : (1 : Int32) <<< (nI m &&& 31) = nI (2 ^ m) := shl1a ⟨m, by omega⟩
theorem shl1x {x : Int32} {m : Nat} (e : x = nI m) (h : m ≤ 16) : (1 : Int32) <<< (x &&& 31) = nI (2 ^ m) := by rw [e]; exact shl1 h
theorem pow_le16 {m : Nat} (h : m ≤ 16) : 2 ^ m ≤ 65536 := Nat.pow_le_pow_right (by decide) h
theorem pow_le10 {m : Nat} (h : m ≤ 10) : 2 ^ m ≤ 1024 := Nat.pow_le_pow_right (by decide) h
def popG : Nat → Nat → Nat
  | 0, _ => 0
  | t + 1, y => y % 2 + popG t (y / 2)
theorem popG_0 : ∀ t, popG t 0 = 0
  | 0 => rfl
  | t + 1 => by rw [popG]; simp [popG_0 t]
theorem popG_le : ∀ t y, popG t y ≤ t
  | 0, _ => Nat.le_refl _
  | t + 1, y => by
    have := popG_le t (y / 2)
    rw [popG]; omega
theorem and1N {y : Nat} (h : y < 2 ^ 31) : nI y &&& 1 = nI (y % 2) := pk_andN (by omega) 1 (by decide)
theorem shr1N {y : Nat} (h : y < 2 ^ 31) : nI y >>> (1 &&& 31) = nI (y / 2) := pk_shrN h _ 1 (by decide)
def orM (mk : Nat → Int32) (w : Int32) : Nat → Int32
  | 0 => 0
  | i + 1 => orM mk w i ||| (if (w >>> (nI i &&& 31)) &&& 1 = 1 then mk i else 0)
def exb (hr co : Nat → Int32) (bd : Int32) : Nat → Bool
  | 0 => true
  | k + 1 => exb hr co bd k && (hr k == 0 || (decide (co k = 2) == decide ((bd >>> (nI k &&& 31)) &&& 1 = 1)))
def flF (E : Nat → Bool) (li0 : Nat → Int32) : Nat → Nat × Nat × (Nat → Int32)
  | 0 => (0, 0, li0)
  | z + 1 =>
    if E z = true ∧ ((flF E li0 z).1 = 0 ∨ popG 16 z ≤ (flF E li0 z).2.1) then
      (if (if 0 < (flF E li0 z).1 ∧ popG 16 z < (flF E li0 z).2.1 then 0 else (flF E li0 z).1) < 10 then
        ((if 0 < (flF E li0 z).1 ∧ popG 16 z < (flF E li0 z).2.1 then 0 else (flF E li0 z).1) + 1, popG 16 z, upd (flF E li0 z).2.2 (if 0 < (flF E li0 z).1 ∧ popG 16 z < (flF E li0 z).2.1 then 0 else (flF E li0 z).1) (nI z))
      else ((if 0 < (flF E li0 z).1 ∧ popG 16 z < (flF E li0 z).2.1 then 0 else (flF E li0 z).1), popG 16 z, (flF E li0 z).2.2))
    else flF E li0 z
theorem flF_b (E : Nat → Bool) (li0 : Nat → Int32) : ∀ z, (flF E li0 z).1 ≤ 10 ∧ (flF E li0 z).2.1 ≤ 16
  | 0 => ⟨Nat.zero_le _, Nat.zero_le _⟩
  | z + 1 => by
    have ih := flF_b E li0 z
    have hp := popG_le 16 z
    rw [flF]
    by_cases h1 : E z = true ∧ ((flF E li0 z).1 = 0 ∨ popG 16 z ≤ (flF E li0 z).2.1)
    · rw [if_pos h1]
      by_cases h2 : 0 < (flF E li0 z).1 ∧ popG 16 z < (flF E li0 z).2.1
      · rw [if_pos h2]; simp; exact hp
      · rw [if_neg h2]
        by_cases h3 : (flF E li0 z).1 < 10
        · rw [if_pos h3]; exact ⟨h3, hp⟩
        · rw [if_neg h3]; exact ⟨ih.1, hp⟩
    · rw [if_neg h1]; exact ih
def exE (g : Nat → Nat → Int32) (n mm : Nat) : Nat → Bool := fun z => exb (g 12) (g 8) (orM (g 27) (nI z) mm) n

set_option maxHeartbeats 4000000 in
set_option maxRecDepth 100000 in
theorem tX3_many (l : Launch) (D : va_G) (cI cZ cC : ClassId) (x : Nat) (hx16 : x < 2 ^ 16) : RdC l yX3_many wsX3_many (rmK 0) D cI cZ cC [.int (nI x)] (fun _ => True) (fun ans => ans = nI (popG 16 x)) := by
  refine RdC.of (cc := cX3_many) (maxL := 3) (ret := .int) (by decide) rfl (Nat.le_of_ble_eq_true rfl) ?_
  intro p e s m args below meth c Q ls hx hb hml hts hown hK hP hret hl
  have hl : lv_has ls 3 [(0, .int (nI x))] := hl
  refine lv_iconst (v := 0) hx hb dX3_many_0 (by decide) ?_
  refine lv_istore_n (lv' := [(1, .int 0), (0, .int (nI x))]) hx hb dX3_many_1 rfl hl (by decide) rfl (fun ls hl => ?_)
  refine lv_iload_n hx hb dX3_many_2 rfl (lv_at hl 1 rfl) ?_
  refine lv_istore_n (lv' := [(2, .int (nI x)), (1, .int 0), (0, .int (nI x))]) hx hb dX3_many_3 rfl hl (by decide) rfl (fun ls hl => ?_)
  have LOOP : ∀ (fu t y a : Nat), t < fu → y < 2 ^ t → t ≤ 16 → a + popG t y = popG 16 x → ∀ (ls : Array Slot), lv_has ls 3 [(1, .int (nI a)), (2, .int (nI y))] → W p l e (rmK 0) s m args below meth c s.heap [] 0 0 Q (F0 m 4 ls []) := by
    intro fu
    induction fu with
    | zero => intro t y a h; exact absurd h (Nat.not_lt_zero _)
    | succ fu ih =>
      intro t y a htf hy ht16 htot ls hl
      have hy31 : y < 65536 := Nat.lt_of_lt_of_le hy (pow_le16 ht16)
      have ha : a ≤ 16 := by have := popG_le 16 x; omega
      refine lv_iload_n hx hb dX3_many_4 rfl (lv_at hl 1 rfl) ?_
      refine lv_if_le (tgt := 21) hx hb dX3_many_5 (by decide) (fun c_1 => ?_) (fun c_1 => ?_)
      · refine lv_iload_n hx hb dX3_many_21 rfl (lv_at hl 0 rfl) ?_
        exact hret 22 _ _ (by have hy0 : y = 0 := Nat.le_zero.mp ((nI_leI (by omega) (by decide)).mp c_1); subst hy0; rw [popG_0] at htot; rw [← htot]; rfl) rfl dX3_many_22
      · refine lv_iload_n hx hb dX3_many_8 rfl (lv_at hl 0 rfl) ?_
        refine lv_iload_n hx hb dX3_many_9 rfl (lv_at hl 1 rfl) ?_
        refine lv_iconst (v := 1) hx hb dX3_many_10 (by decide) ?_
        refine lv_iand hx hb dX3_many_11 ?_
        refine lv_iadd hx hb dX3_many_12 ?_
        refine lv_istore_n (lv' := [(1, .int ((nI a) + ((nI y) &&& 1))), (2, .int (nI y))]) hx hb dX3_many_13 rfl hl (by decide) rfl (fun ls hl => ?_)
        refine lv_iload_n hx hb dX3_many_14 rfl (lv_at hl 1 rfl) ?_
        refine lv_iconst (v := 1) hx hb dX3_many_15 (by decide) ?_
        refine lv_ishr hx hb dX3_many_16 ?_
        refine lv_istore_n (lv' := [(2, .int ((nI y) >>> (1 &&& 31))), (1, .int ((nI a) + ((nI y) &&& 1)))]) hx hb dX3_many_17 rfl hl (by decide) rfl (fun ls hl => ?_)
        refine lv_goto (tgt := 4) hx hb dX3_many_18 (by decide) ?_
        have hy0 : ¬ y = 0 := fun h => c_1 (by rw [h]; decide)
        obtain ⟨t1, rfl⟩ : ∃ t1, t = t1 + 1 := by cases t with | zero => exact absurd (Nat.lt_one_iff.mp hy) hy0 | succ t1 => exact ⟨t1, rfl⟩
        have hy2 : y / 2 < 2 ^ t1 := by rw [Nat.pow_succ] at hy; omega
        exact ih t1 (y / 2) (a + y % 2) (by omega) hy2 (by omega) (by rw [popG] at htot; omega) ls (by rw [← nI_add, ← and1N (show y < 2 ^ 31 by omega), ← shr1N (show y < 2 ^ 31 by omega)]; exact lv_sub hl [1, 0] rfl)
  exact LOOP 17 16 x 0 (by decide) hx16 (by decide) (by omega) ls (lv_sub hl [1, 0] rfl)

set_option maxHeartbeats 4000000 in
set_option maxRecDepth 100000 in
theorem tX3_doesExplain (l : Launch) (D : va_G) (cI cZ cC : ClassId) (q : Nat → Nat) (o : Nat) (g : Nat → Nat → Int32) (n : Nat) (hn : g 0 0 = nI n) (hnb : n ≤ 16) (mm : Nat) (hm : g 26 0 = nI mm) (hmb : mm ≤ 10) (w : Int32) : RdC l yX3_doesExplain wsX3_doesExplain (rmK 0) D cI cZ cC [.ref o, .int w] (fun H => va_P D vwCl (mW cI cZ q o g) H) (fun ans => ans = bI (exb (g 12) (g 8) (orM (g 27) w mm) n = true)) := by
  refine RdC.of (cc := cX3_doesExplain) (maxL := 5) (ret := .boolean) (by decide) rfl (Nat.le_of_ble_eq_true rfl) ?_
  intro p e s m args below meth c Q ls hx hb hml hts hown hK hP hret hl
  have hl : lv_has ls 5 [(0, .ref o), (1, .int w)] := hl
  have hP : va_P D vwCl (mW cI cZ q o g) s.heap := hP
  have hinX3 : ∀ w ∈ u_ws RX3 TX3 33, w ∈ wsX3_doesExplain := (fun w h => List.mem_cons_of_mem _ (List.mem_append_right _ h))
  refine lv_iconst (v := 0) hx hb dX3_doesExplain_0 (by decide) ?_
  refine lv_istore_n (lv' := [(2, .int 0), (0, .ref o), (1, .int w)]) hx hb dX3_doesExplain_1 rfl hl (by decide) rfl (fun ls hl => ?_)
  refine lv_iconst (v := 0) hx hb dX3_doesExplain_2 (by decide) ?_
  refine lv_istore_n (lv' := [(3, .int 0), (2, .int 0), (0, .ref o), (1, .int w)]) hx hb dX3_doesExplain_3 rfl hl (by decide) rfl (fun ls hl => ?_)
  have LOOP_1 : ∀ (fu i : Nat), i ≤ mm → mm - i < fu → ∀ (ls : Array Slot), lv_has ls 5 [(0, .ref o), (1, .int w), (2, .int (orM (g 27) w i)), (3, .int (nI i))] → W p l e (rmK 0) s m args below meth c s.heap [] 0 0 Q (F0 m 4 ls []) := by
    intro fu
    induction fu with
    | zero => intro i h1 h2; exact absurd h2 (Nat.not_lt_zero _)
    | succ fu ih =>
      intro i hkn hfu  ls hl
      refine lv_iload_n hx hb dX3_doesExplain_4 rfl (lv_at hl 3 rfl) ?_
      refine lv_aload_n hx hb dX3_doesExplain_5 rfl (lv_at hl 0 rfl) ?_
      refine va_get (D := D) (ci := 3) (v := .int (g 26 0)) (C := RX3) (T := TX3) (N := 33) hx hb hts hinX3 hown hK hP 0 rfl rfl 26 (by decide) (hts (.fieldLink RX3 141 "TroubleCodesModel" "causes" "I") (mem_at 1 rfl)) (fun _ h9 => h9) rfl dX3_doesExplain_6 ?_
      refine lv_icmp_ge (tgt := 40) hx hb dX3_doesExplain_9 (by decide) (fun c_2 => ?_) (fun c_2 => ?_)
      · have ekn : mm = i := Nat.le_antisymm (kx_ge hm (by omega) (by omega) c_2) hkn
        subst ekn
        refine lv_iconst (v := 1) hx hb dX3_doesExplain_40 (by decide) ?_
        refine lv_istore_n (lv' := [(3, .int 1), (0, .ref o), (1, .int w), (2, .int (orM (g 27) w mm))]) hx hb dX3_doesExplain_41 rfl hl (by decide) rfl (fun ls hl => ?_)
        refine lv_iconst (v := 0) hx hb dX3_doesExplain_42 (by decide) ?_
        refine lv_istore (lv' := [(4, .int 0), (3, .int 1), (0, .ref o), (1, .int w), (2, .int (orM (g 27) w mm))]) hx hb dX3_doesExplain_43 hl (by decide) rfl (fun ls hl => ?_)
        have LOOP_3 : ∀ (fu k : Nat), k ≤ n → n - k < fu → ∀ (ls : Array Slot), lv_has ls 5 [(0, .ref o), (1, .int w), (2, .int (orM (g 27) w mm)), (3, .int (bI (exb (g 12) (g 8) (orM (g 27) w mm) k = true))), (4, .int (nI k))] → W p l e (rmK 0) s m args below meth c s.heap [] 0 0 Q (F0 m 45 ls []) := by
          intro fu
          induction fu with
          | zero => intro k h1 h2; exact absurd h2 (Nat.not_lt_zero _)
          | succ fu ih =>
            intro k hkn hfu  ls hl
            refine lv_iload hx hb dX3_doesExplain_45 (lv_at hl 4 rfl) ?_
            refine lv_aload_n hx hb dX3_doesExplain_47 rfl (lv_at hl 0 rfl) ?_
            refine va_get (D := D) (ci := 3) (v := .int (g 0 0)) (C := RX3) (T := TX3) (N := 33) hx hb hts hinX3 hown hK hP 0 rfl rfl 0 (by decide) (hts (.fieldLink RX3 93 "TroubleCodesModel" "checks" "I") (mem_at 3 rfl)) (fun _ h9 => h9) rfl dX3_doesExplain_48 ?_
            refine lv_icmp_ge (tgt := 114) hx hb dX3_doesExplain_51 (by decide) (fun c_4 => ?_) (fun c_4 => ?_)
            · have ekn : n = k := Nat.le_antisymm (kx_ge hn (by omega) (by omega) c_4) hkn
              subst ekn
              refine lv_iload_n hx hb dX3_doesExplain_114 rfl (lv_at hl 3 rfl) ?_
              exact hret 115 _ _ (rfl) (bI_nar _) dX3_doesExplain_115
            · have hkl : k < n := kx_lt hn (by omega) (by omega) c_4
              refine lv_iload_n hx hb dX3_doesExplain_54 rfl (lv_at hl 3 rfl) ?_
              refine lv_if_eq (tgt := 106) hx hb dX3_doesExplain_55 (by decide) (fun c_5 => ?_) (fun c_5 => ?_)
              · have c_5 := bI_eq c_5
                refine lv_iconst (v := 0) hx hb dX3_doesExplain_106 (by decide) ?_
                refine lv_istore_n (lv' := [(3, .int 0), (0, .ref o), (1, .int w), (2, .int (orM (g 27) w mm)), (4, .int (nI k))]) hx hb dX3_doesExplain_107 rfl hl (by decide) rfl (fun ls hl => ?_)
                refine lv_iinc (v := nI (k + 1)) (lv' := [(4, .int (nI (k + 1))), (3, .int 0), (0, .ref o), (1, .int w), (2, .int (orM (g 27) w mm))]) hx hb dX3_doesExplain_108 hl (k := 4) rfl (nI_1 _) (by decide) rfl (fun ls hl => ?_)
                refine lv_goto (tgt := 45) hx hb dX3_doesExplain_111 (by decide) ?_
                have q_6 : (bI (exb (g 12) (g 8) (orM (g 27) w mm) (k + 1) = true) : Int32) = 0 := by simp [exb, bI, c_4, Int32.not_le.mp c_4, c_5]
                exact ih (k + 1) (by omega) (by omega) ls (by rw [q_6]; exact lv_sub hl [2, 3, 4, 1, 0] rfl)
              · have c_5 := bI_ne c_5
                refine lv_aload_n hx hb dX3_doesExplain_58 rfl (lv_at hl 0 rfl) ?_
                refine va_get (D := D) (ci := 3) (v := .ref (q 12)) (C := RX3) (T := TX3) (N := 33) hx hb hts hinX3 hown hK hP 0 rfl rfl 12 (by decide) (hts (.fieldLink RX3 44 "TroubleCodesModel" "hasRun" "[Z") (mem_at 4 rfl)) (fun _ h9 => h9) rfl dX3_doesExplain_59 ?_
                refine lv_iload hx hb dX3_doesExplain_62 (lv_at hl 4 rfl) ?_
                refine x_zald (k := k) (f := g 12) hx hb hK hP 12 rfl (by omega) (by decide) dX3_doesExplain_64 ?_
                refine lv_if_eq (tgt := 102) hx hb dX3_doesExplain_65 (by decide) (fun c_7 => ?_) (fun c_7 => ?_)
                · refine lv_iconst (v := 1) hx hb dX3_doesExplain_102 (by decide) ?_
                  refine lv_goto (tgt := 107) hx hb dX3_doesExplain_103 (by decide) ?_
                  refine lv_istore_n (lv' := [(3, .int 1), (0, .ref o), (1, .int w), (2, .int (orM (g 27) w mm)), (4, .int (nI k))]) hx hb dX3_doesExplain_107 rfl hl (by decide) rfl (fun ls hl => ?_)
                  refine lv_iinc (v := nI (k + 1)) (lv' := [(4, .int (nI (k + 1))), (3, .int 1), (0, .ref o), (1, .int w), (2, .int (orM (g 27) w mm))]) hx hb dX3_doesExplain_108 hl (k := 4) rfl (nI_1 _) (by decide) rfl (fun ls hl => ?_)
                  refine lv_goto (tgt := 45) hx hb dX3_doesExplain_111 (by decide) ?_
                  have q_8 : (bI (exb (g 12) (g 8) (orM (g 27) w mm) (k + 1) = true) : Int32) = 1 := by simp [exb, bI, c_4, Int32.not_le.mp c_4, c_5, c_7]
                  exact ih (k + 1) (by omega) (by omega) ls (by rw [q_8]; exact lv_sub hl [2, 3, 4, 1, 0] rfl)
                · refine lv_aload_n hx hb dX3_doesExplain_68 rfl (lv_at hl 0 rfl) ?_
                  refine va_get (D := D) (ci := 3) (v := .ref (q 8)) (C := RX3) (T := TX3) (N := 33) hx hb hts hinX3 hown hK hP 0 rfl rfl 8 (by decide) (hts (.fieldLink RX3 32 "TroubleCodesModel" "code" "[I") (mem_at 5 rfl)) (fun _ h9 => h9) rfl dX3_doesExplain_69 ?_
                  refine lv_iload hx hb dX3_doesExplain_72 (lv_at hl 4 rfl) ?_
                  refine x_iald (k := k) (f := g 8) hx hb hK hP 8 rfl (by omega) (by decide) dX3_doesExplain_74 ?_
                  refine lv_iconst (v := 2) hx hb dX3_doesExplain_75 (by decide) ?_
                  refine lv_icmp_ne (tgt := 83) hx hb dX3_doesExplain_76 (by decide) (fun c_9 => ?_) (fun c_9 => ?_)
                  · refine lv_iconst (v := 0) hx hb dX3_doesExplain_83 (by decide) ?_
                    refine lv_iload_n hx hb dX3_doesExplain_84 rfl (lv_at hl 2 rfl) ?_
                    refine lv_iload hx hb dX3_doesExplain_85 (lv_at hl 4 rfl) ?_
                    refine lv_ishr hx hb dX3_doesExplain_87 ?_
                    refine lv_iconst (v := 1) hx hb dX3_doesExplain_88 (by decide) ?_
                    refine lv_iand hx hb dX3_doesExplain_89 ?_
                    refine lv_iconst (v := 1) hx hb dX3_doesExplain_90 (by decide) ?_
                    refine lv_icmp_ne (tgt := 98) hx hb dX3_doesExplain_91 (by decide) (fun c_10 => ?_) (fun c_10 => ?_)
                    · refine lv_iconst (v := 0) hx hb dX3_doesExplain_98 (by decide) ?_
                      refine lv_icmp_ne (tgt := 106) hx hb dX3_doesExplain_99 (by decide) (fun c_11 => absurd c_11 (by decide)) (fun _ => ?_)
                      refine lv_iconst (v := 1) hx hb dX3_doesExplain_102 (by decide) ?_
                      refine lv_goto (tgt := 107) hx hb dX3_doesExplain_103 (by decide) ?_
                      refine lv_istore_n (lv' := [(3, .int 1), (0, .ref o), (1, .int w), (2, .int (orM (g 27) w mm)), (4, .int (nI k))]) hx hb dX3_doesExplain_107 rfl hl (by decide) rfl (fun ls hl => ?_)
                      refine lv_iinc (v := nI (k + 1)) (lv' := [(4, .int (nI (k + 1))), (3, .int 1), (0, .ref o), (1, .int w), (2, .int (orM (g 27) w mm))]) hx hb dX3_doesExplain_108 hl (k := 4) rfl (nI_1 _) (by decide) rfl (fun ls hl => ?_)
                      refine lv_goto (tgt := 45) hx hb dX3_doesExplain_111 (by decide) ?_
                      have q_12 : (bI (exb (g 12) (g 8) (orM (g 27) w mm) (k + 1) = true) : Int32) = 1 := by simp [exb, bI, c_4, Int32.not_le.mp c_4, c_5, c_7, c_9, c_10]
                      exact ih (k + 1) (by omega) (by omega) ls (by rw [q_12]; exact lv_sub hl [2, 3, 4, 1, 0] rfl)
                    · refine lv_iconst (v := 1) hx hb dX3_doesExplain_94 (by decide) ?_
                      refine lv_goto (tgt := 99) hx hb dX3_doesExplain_95 (by decide) ?_
                      refine lv_icmp_ne (tgt := 106) hx hb dX3_doesExplain_99 (by decide) (fun _ => ?_) (fun c_13 => absurd c_13 (by decide))
                      refine lv_iconst (v := 0) hx hb dX3_doesExplain_106 (by decide) ?_
                      refine lv_istore_n (lv' := [(3, .int 0), (0, .ref o), (1, .int w), (2, .int (orM (g 27) w mm)), (4, .int (nI k))]) hx hb dX3_doesExplain_107 rfl hl (by decide) rfl (fun ls hl => ?_)
                      refine lv_iinc (v := nI (k + 1)) (lv' := [(4, .int (nI (k + 1))), (3, .int 0), (0, .ref o), (1, .int w), (2, .int (orM (g 27) w mm))]) hx hb dX3_doesExplain_108 hl (k := 4) rfl (nI_1 _) (by decide) rfl (fun ls hl => ?_)
                      refine lv_goto (tgt := 45) hx hb dX3_doesExplain_111 (by decide) ?_
                      have q_14 : (bI (exb (g 12) (g 8) (orM (g 27) w mm) (k + 1) = true) : Int32) = 0 := by simp [exb, bI, c_4, Int32.not_le.mp c_4, c_5, c_7, c_9, c_10]
                      exact ih (k + 1) (by omega) (by omega) ls (by rw [q_14]; exact lv_sub hl [2, 3, 4, 1, 0] rfl)
                  · refine lv_iconst (v := 1) hx hb dX3_doesExplain_79 (by decide) ?_
                    refine lv_goto (tgt := 84) hx hb dX3_doesExplain_80 (by decide) ?_
                    refine lv_iload_n hx hb dX3_doesExplain_84 rfl (lv_at hl 2 rfl) ?_
                    refine lv_iload hx hb dX3_doesExplain_85 (lv_at hl 4 rfl) ?_
                    refine lv_ishr hx hb dX3_doesExplain_87 ?_
                    refine lv_iconst (v := 1) hx hb dX3_doesExplain_88 (by decide) ?_
                    refine lv_iand hx hb dX3_doesExplain_89 ?_
                    refine lv_iconst (v := 1) hx hb dX3_doesExplain_90 (by decide) ?_
                    refine lv_icmp_ne (tgt := 98) hx hb dX3_doesExplain_91 (by decide) (fun c_15 => ?_) (fun c_15 => ?_)
                    · refine lv_iconst (v := 0) hx hb dX3_doesExplain_98 (by decide) ?_
                      refine lv_icmp_ne (tgt := 106) hx hb dX3_doesExplain_99 (by decide) (fun _ => ?_) (fun c_16 => absurd c_16 (by decide))
                      refine lv_iconst (v := 0) hx hb dX3_doesExplain_106 (by decide) ?_
                      refine lv_istore_n (lv' := [(3, .int 0), (0, .ref o), (1, .int w), (2, .int (orM (g 27) w mm)), (4, .int (nI k))]) hx hb dX3_doesExplain_107 rfl hl (by decide) rfl (fun ls hl => ?_)
                      refine lv_iinc (v := nI (k + 1)) (lv' := [(4, .int (nI (k + 1))), (3, .int 0), (0, .ref o), (1, .int w), (2, .int (orM (g 27) w mm))]) hx hb dX3_doesExplain_108 hl (k := 4) rfl (nI_1 _) (by decide) rfl (fun ls hl => ?_)
                      refine lv_goto (tgt := 45) hx hb dX3_doesExplain_111 (by decide) ?_
                      have q_17 : (bI (exb (g 12) (g 8) (orM (g 27) w mm) (k + 1) = true) : Int32) = 0 := by simp [exb, bI, c_4, Int32.not_le.mp c_4, c_5, c_7, c_9, c_15]
                      exact ih (k + 1) (by omega) (by omega) ls (by rw [q_17]; exact lv_sub hl [2, 3, 4, 1, 0] rfl)
                    · refine lv_iconst (v := 1) hx hb dX3_doesExplain_94 (by decide) ?_
                      refine lv_goto (tgt := 99) hx hb dX3_doesExplain_95 (by decide) ?_
                      refine lv_icmp_ne (tgt := 106) hx hb dX3_doesExplain_99 (by decide) (fun c_18 => absurd c_18 (by decide)) (fun _ => ?_)
                      refine lv_iconst (v := 1) hx hb dX3_doesExplain_102 (by decide) ?_
                      refine lv_goto (tgt := 107) hx hb dX3_doesExplain_103 (by decide) ?_
                      refine lv_istore_n (lv' := [(3, .int 1), (0, .ref o), (1, .int w), (2, .int (orM (g 27) w mm)), (4, .int (nI k))]) hx hb dX3_doesExplain_107 rfl hl (by decide) rfl (fun ls hl => ?_)
                      refine lv_iinc (v := nI (k + 1)) (lv' := [(4, .int (nI (k + 1))), (3, .int 1), (0, .ref o), (1, .int w), (2, .int (orM (g 27) w mm))]) hx hb dX3_doesExplain_108 hl (k := 4) rfl (nI_1 _) (by decide) rfl (fun ls hl => ?_)
                      refine lv_goto (tgt := 45) hx hb dX3_doesExplain_111 (by decide) ?_
                      have q_19 : (bI (exb (g 12) (g 8) (orM (g 27) w mm) (k + 1) = true) : Int32) = 1 := by simp [exb, bI, c_4, Int32.not_le.mp c_4, c_5, c_7, c_9, c_15]
                      exact ih (k + 1) (by omega) (by omega) ls (by rw [q_19]; exact lv_sub hl [2, 3, 4, 1, 0] rfl)
        have q_20 : (bI (exb (g 12) (g 8) (orM (g 27) w mm) 0 = true) : Int32) = 1 := by first | rfl | simp [exb, bI]
        have q_21 : (nI 0 : Int32) = 0 := by first | rfl | simp [exb, bI]
        exact LOOP_3 (n - 0 + 1) 0 (Nat.zero_le _) (Nat.lt_succ_self _) ls (by rw [q_20, q_21]; exact lv_sub hl [2, 3, 4, 1, 0] rfl)
      · have hil : i < mm := kx_lt hm (by omega) (by omega) c_2
        refine lv_iload_n hx hb dX3_doesExplain_12 rfl (lv_at hl 2 rfl) ?_
        refine lv_iload_n hx hb dX3_doesExplain_13 rfl (lv_at hl 1 rfl) ?_
        refine lv_iload_n hx hb dX3_doesExplain_14 rfl (lv_at hl 3 rfl) ?_
        refine lv_ishr hx hb dX3_doesExplain_15 ?_
        refine lv_iconst (v := 1) hx hb dX3_doesExplain_16 (by decide) ?_
        refine lv_iand hx hb dX3_doesExplain_17 ?_
        refine lv_iconst (v := 1) hx hb dX3_doesExplain_18 (by decide) ?_
        refine lv_icmp_ne (tgt := 31) hx hb dX3_doesExplain_19 (by decide) (fun c_22 => ?_) (fun c_22 => ?_)
        · refine lv_iconst (v := 0) hx hb dX3_doesExplain_31 (by decide) ?_
          refine lv_ior hx hb dX3_doesExplain_32 ?_
          refine lv_istore_n (lv' := [(2, .int ((orM (g 27) w i) ||| 0)), (0, .ref o), (1, .int w), (3, .int (nI i))]) hx hb dX3_doesExplain_33 rfl hl (by decide) rfl (fun ls hl => ?_)
          refine lv_iinc (v := nI (i + 1)) (lv' := [(3, .int (nI (i + 1))), (2, .int ((orM (g 27) w i) ||| 0)), (0, .ref o), (1, .int w)]) hx hb dX3_doesExplain_34 hl (k := 3) rfl (nI_1 _) (by decide) rfl (fun ls hl => ?_)
          refine lv_goto (tgt := 4) hx hb dX3_doesExplain_37 (by decide) ?_
          have q_23 : (orM (g 27) w (i + 1) : Int32) = (orM (g 27) w i) ||| 0 := by rw [orM, if_neg c_22]
          exact ih (i + 1) (by omega) (by omega) ls (by rw [q_23]; exact lv_sub hl [2, 3, 1, 0] rfl)
        · refine lv_aload_n hx hb dX3_doesExplain_22 rfl (lv_at hl 0 rfl) ?_
          refine va_get (D := D) (ci := 3) (v := .ref (q 27)) (C := RX3) (T := TX3) (N := 33) hx hb hts hinX3 hown hK hP 0 rfl rfl 27 (by decide) (hts (.fieldLink RX3 78 "TroubleCodesModel" "makes" "[I") (mem_at 2 rfl)) (fun _ h9 => h9) rfl dX3_doesExplain_23 ?_
          refine lv_iload_n hx hb dX3_doesExplain_26 rfl (lv_at hl 3 rfl) ?_
          refine x_iald (k := i) (f := g 27) hx hb hK hP 22 rfl (by omega) (by decide) dX3_doesExplain_27 ?_
          refine lv_goto (tgt := 32) hx hb dX3_doesExplain_28 (by decide) ?_
          refine lv_ior hx hb dX3_doesExplain_32 ?_
          refine lv_istore_n (lv' := [(2, .int ((orM (g 27) w i) ||| (g 27 i))), (0, .ref o), (1, .int w), (3, .int (nI i))]) hx hb dX3_doesExplain_33 rfl hl (by decide) rfl (fun ls hl => ?_)
          refine lv_iinc (v := nI (i + 1)) (lv' := [(3, .int (nI (i + 1))), (2, .int ((orM (g 27) w i) ||| (g 27 i))), (0, .ref o), (1, .int w)]) hx hb dX3_doesExplain_34 hl (k := 3) rfl (nI_1 _) (by decide) rfl (fun ls hl => ?_)
          refine lv_goto (tgt := 4) hx hb dX3_doesExplain_37 (by decide) ?_
          have q_24 : (orM (g 27) w (i + 1) : Int32) = (orM (g 27) w i) ||| (g 27 i) := by rw [orM, if_pos c_22]
          exact ih (i + 1) (by omega) (by omega) ls (by rw [q_24]; exact lv_sub hl [2, 3, 1, 0] rfl)
  have q_25 : (orM (g 27) w 0 : Int32) = 0 := by rfl
  have q_26 : (nI 0 : Int32) = 0 := by rfl
  exact LOOP_1 (mm - 0 + 1) 0 (Nat.zero_le _) (Nat.lt_succ_self _) ls (by rw [q_25, q_26]; exact lv_sub hl [2, 3, 1, 0] rfl)

def fX3_explains (g : Nat → Nat → Int32) (n mm : Nat) (x : Int32) : Int32 := if 0 ≤ x ∧ x ≤ ((1 <<< ((g 26 0) &&& 31)) - 1) then (if exb (g 12) (g 8) (orM (g 27) x mm) n = true then 1 else 0) else (-2)
set_option maxHeartbeats 4000000 in
set_option maxRecDepth 100000 in
theorem tX3_explains (l : Launch) (D : va_G) (cI cZ cC : ClassId) (q : Nat → Nat) (o : Nat) (g : Nat → Nat → Int32) (n : Nat) (hn : g 0 0 = nI n) (hnb : n ≤ 16) (mm : Nat) (hm : g 26 0 = nI mm) (hmb : mm ≤ 10) (x : Int32) : RdC l yX3_explains wsX3_explains (rmK 1) D cI cZ cC [.ref o, .int x] (fun H => va_P D vwCl (mW cI cZ q o g) H) (fun ans => ans = fX3_explains g n mm x) := by
  refine RdC.of (cc := cX3_explains) (maxL := 2) (ret := .int) (by decide) rfl (Nat.le_of_ble_eq_true rfl) ?_
  intro p e s m args below meth c Q ls hx hb hml hts hown hK hP hret hl
  have hl : lv_has ls 2 [(0, .ref o), (1, .int x)] := hl
  have hP : va_P D vwCl (mW cI cZ q o g) s.heap := hP
  have hinX3 : ∀ w ∈ u_ws RX3 TX3 33, w ∈ wsX3_explains := (fun w h => List.mem_cons_of_mem _ (List.mem_append_right _ h))
  refine lv_iload_n hx hb dX3_explains_0 rfl (lv_at hl 1 rfl) ?_
  refine lv_iconst (v := 0) hx hb dX3_explains_1 (by decide) ?_
  refine lv_iconst (v := 1) hx hb dX3_explains_2 (by decide) ?_
  refine lv_aload_n hx hb dX3_explains_3 rfl (lv_at hl 0 rfl) ?_
  refine va_get (D := D) (ci := 3) (v := .int (g 26 0)) (C := RX3) (T := TX3) (N := 33) hx hb hts hinX3 hown hK hP 0 rfl rfl 26 (by decide) (hts (.fieldLink RX3 141 "TroubleCodesModel" "causes" "I") (mem_at 1 rfl)) (fun _ h9 => h9) rfl dX3_explains_4 ?_
  refine lv_ishl hx hb dX3_explains_7 ?_
  refine lv_iconst (v := 1) hx hb dX3_explains_8 (by decide) ?_
  refine lv_isub hx hb dX3_explains_9 ?_
  refine x_rdS (As := [.int x, .int 0, .int ((1 <<< ((g 26 0) &&& 31)) - 1)]) (rest := []) ⟨hx, hb, hml, hown, hts⟩ (tX3_in l D cI cZ cC x 0 ((1 <<< ((g 26 0) &&& 31)) - 1)) (va_cwS 3 hts gX3_explains_X3_in rfl rfl rfl (by decide +kernel) ⟨Nat.le_of_ble_eq_true rfl, Nat.le_of_ble_eq_true rfl⟩) hK trivial rfl hl.1 rfl (Nat.le_of_ble_eq_true rfl) dX3_explains_10 ⟨Nat.le_of_ble_eq_true rfl, Nat.le_of_ble_eq_true rfl⟩ (fun r_1 er_1 => ?_)
  have er_1 : r_1 = bI (0 ≤ x ∧ x ≤ ((1 <<< ((g 26 0) &&& 31)) - 1)) := er_1
  subst er_1
  refine lv_if_ne (tgt := 21) hx hb dX3_explains_13 (by decide) (fun c_2 => ?_) (fun c_2 => ?_)
  · have c_2 := bI_ne c_2
    refine lv_aload_n hx hb dX3_explains_21 rfl (lv_at hl 0 rfl) ?_
    refine lv_iload_n hx hb dX3_explains_22 rfl (lv_at hl 1 rfl) ?_
    refine x_rdV (As := [.int x]) (rest := []) ⟨hx, hb, hml, hown, hts⟩ (tX3_doesExplain l D cI cZ cC q o g n hn hnb mm hm hmb x) (cwV 1 hts gX3_explains_X3_doesExplain rfl rfl rfl (by decide +kernel) ⟨Nat.le_of_ble_eq_true rfl, Nat.le_of_ble_eq_true rfl⟩) hK (x_recv (ci := 3) hK hP rfl (q0 := 0) rfl) hP rfl hl.1 rfl (Nat.le_of_ble_eq_true rfl) dX3_explains_23 ⟨Nat.le_of_ble_eq_true rfl, Nat.le_of_ble_eq_true rfl⟩ (fun r_3 er_3 => ?_)
    have er_3 : r_3 = bI (exb (g 12) (g 8) (orM (g 27) x mm) n = true) := er_3
    subst er_3
    refine lv_if_eq (tgt := 33) hx hb dX3_explains_26 (by decide) (fun c_4 => ?_) (fun c_4 => ?_)
    · have c_4 := bI_eq c_4
      refine lv_iconst (v := 0) hx hb dX3_explains_33 (by decide) ?_
      exact hret 34 _ _ (by rw [fX3_explains]; rw [if_pos c_2, if_neg c_4]) rfl dX3_explains_34
    · have c_4 := bI_ne c_4
      refine lv_iconst (v := 1) hx hb dX3_explains_29 (by decide) ?_
      refine lv_goto (tgt := 34) hx hb dX3_explains_30 (by decide) ?_
      exact hret 34 _ _ (by rw [fX3_explains]; rw [if_pos c_2, if_pos c_4]) rfl dX3_explains_34
  · have c_2 := bI_eq c_2
    refine lv_bipush (v := (-2)) hx hb dX3_explains_16 (by decide) ?_
    refine lv_goto (tgt := 34) hx hb dX3_explains_18 (by decide) ?_
    exact hret 34 _ _ (by rw [fX3_explains]; rw [if_neg c_2]) rfl dX3_explains_34

def fX3_findLeast (g : Nat → Nat → Int32) (n mm : Nat) : Nat → Nat → Int32 := va_up (va_up g 29 (fun _ => nI (flF (exE g n mm) (g 30) (2 ^ mm)).1)) 30 (flF (exE g n mm) (g 30) (2 ^ mm)).2.2

set_option maxHeartbeats 4000000 in
set_option maxRecDepth 100000 in
theorem tX3_findLeast (l : Launch) (D : va_G) (cI cZ cC : ClassId) (q : Nat → Nat) (o : Nat) (g : Nat → Nat → Int32) (n : Nat) (hn : g 0 0 = nI n) (hnb : n ≤ 16) (mm : Nat) (hm : g 26 0 = nI mm) (hmb : mm ≤ 10) : WrV l yX3_findLeast wsX3_findLeast (rmK 1) D cI cZ cC [.ref o] (mW cI cZ q o g) (mW cI cZ q o (fX3_findLeast g n mm)) := by
  refine WrV.of (cc := cX3_findLeast) (maxL := 3) (by decide) rfl (Nat.le_of_ble_eq_true rfl) ?_
  intro p e s m args below meth c Q A ls hx hb hml hts hown hK hP hD hS hA hret hl
  have hl : lv_has ls 3 [(0, .ref o)] := hl
  have hinX3 : ∀ w ∈ u_ws RX3 TX3 33, w ∈ wsX3_findLeast := (fun w h => List.mem_cons_of_mem _ (List.mem_append_right _ h))
  refine lv_aload_n hx hb dX3_findLeast_0 rfl (lv_at hl 0 rfl) ?_
  refine lv_iconst (v := 0) hx hb dX3_findLeast_1 (by decide) ?_
  refine va_put (D := D) (ci := 3) (v := .int 0) (ty := .int) (C := RX3) (T := TX3) (N := 33) hx hb hts hinX3 tyX3 tyX3_ok nmX3 hown hK hP hD hS 0 rfl rfl 29 (by decide) (hts (.fieldLink RX3 147 "TroubleCodesModel" "listed" "I") (mem_at 1 rfl)) (fun _ h9 => h9) rfl (by decide +kernel) rfl rfl (Nat.le_of_ble_eq_true rfl) dX3_findLeast_2 (fun H locs hP hD hS => ?_)
  have hP : va_P D vwCl (mW cI cZ q o (va_up g 29 (fun _ => 0))) H := hP
  have hD : va_D A (mW cI cZ q o (va_up g 29 (fun _ => 0))) := hD
  refine lv_iconst (v := 0) hx hb dX3_findLeast_5 (by decide) ?_
  refine lv_istore_n (lv' := [(1, .int 0), (0, .ref o)]) hx hb dX3_findLeast_6 rfl hl (by decide) rfl (fun ls hl => ?_)
  refine lv_iconst (v := 0) hx hb dX3_findLeast_7 (by decide) ?_
  refine lv_istore_n (lv' := [(2, .int 0), (1, .int 0), (0, .ref o)]) hx hb dX3_findLeast_8 rfl hl (by decide) rfl (fun ls hl => ?_)
  have LOOP_1 : ∀ (fu z : Nat), z ≤ 2 ^ mm → 2 ^ mm - z < fu → ∀ (H : Heap) (locs : List Loc) (ls : Array Slot), va_P D vwCl (mW cI cZ q o (va_up (va_up g 29 (fun _ => nI (flF (exE g n mm) (g 30) z).1)) 30 ((flF (exE g n mm) (g 30) z).2.2))) H → va_D A (mW cI cZ q o (va_up (va_up g 29 (fun _ => nI (flF (exE g n mm) (g 30) z).1)) 30 ((flF (exE g n mm) (g 30) z).2.2))) → va_S A s.heap H locs → lv_has ls 3 [(0, .ref o), (1, .int (nI (flF (exE g n mm) (g 30) z).2.1)), (2, .int (nI z))] → W p l e (rmK 1) s m args below meth c H locs 0 0 Q (F0 m 9 ls []) := by
    intro fu
    induction fu with
    | zero => intro z h1 h2; exact absurd h2 (Nat.not_lt_zero _)
    | succ fu ih =>
      intro z hkn hfu  H locs ls hP hD hS hl
      refine lv_iload_n hx hb dX3_findLeast_9 rfl (lv_at hl 2 rfl) ?_
      refine lv_iconst (v := 1) hx hb dX3_findLeast_10 (by decide) ?_
      refine lv_aload_n hx hb dX3_findLeast_11 rfl (lv_at hl 0 rfl) ?_
      refine va_get (D := D) (ci := 3) (v := .int (g 26 0)) (C := RX3) (T := TX3) (N := 33) hx hb hts hinX3 hown hK hP 0 rfl rfl 26 (by decide) (hts (.fieldLink RX3 141 "TroubleCodesModel" "causes" "I") (mem_at 2 rfl)) (fun _ h9 => h9) rfl dX3_findLeast_12 ?_
      refine lv_ishl hx hb dX3_findLeast_15 ?_
      rw [shl1x hm (by omega)]
      refine lv_icmp_ge (tgt := 109) hx hb dX3_findLeast_16 (by decide) (fun c_2 => ?_) (fun c_2 => ?_)
      · have ekn : 2 ^ mm = z := Nat.le_antisymm (kx_ge (x := nI (2 ^ mm)) rfl (by have := pow_le10 hmb; omega) (by have := pow_le10 hmb; omega) c_2) hkn
        subst ekn
        exact hret 109 _ _ _ hP hD hS dX3_findLeast_109
      · have hzl : z < 2 ^ mm := kx_lt (x := nI (2 ^ mm)) rfl (by have := pow_le10 hmb; omega) (by have := pow_le10 hmb; omega) c_2
        obtain ⟨L, few, li, hs⟩ : ∃ L few li, flF (exE g n mm) (g 30) z = (L, few, li) := ⟨_, _, _, rfl⟩
        have hLb : L ≤ 10 ∧ few ≤ 16 := by have := flF_b (exE g n mm) (g 30) z; rw [hs] at this; exact this
        have hpz := popG_le 16 z
        have hz16 : z < 2 ^ 16 := by have := pow_le10 hmb; omega
        rw [hs] at hP hD hl
        have hP : va_P D vwCl (mW cI cZ q o (va_up (va_up g 29 (fun _ => nI L)) 30 li)) H := hP
        have hD : va_D A (mW cI cZ q o (va_up (va_up g 29 (fun _ => nI L)) 30 li)) := hD
        have hl : lv_has ls 3 [(0, .ref o), (1, .int (nI few)), (2, .int (nI z))] := hl
        refine lv_aload_n hx hb dX3_findLeast_19 rfl (lv_at hl 0 rfl) ?_
        refine lv_iload_n hx hb dX3_findLeast_20 rfl (lv_at hl 2 rfl) ?_
        refine x_rdV (As := [.int (nI z)]) (rest := []) ⟨hx, hb, hml, hown, hts⟩ (tX3_doesExplain l D cI cZ cC q o (va_up (va_up g 29 (fun _ => nI L)) 30 li) n hn hnb mm hm hmb (nI z)) (cwV 1 hts gX3_findLeast_X3_doesExplain rfl rfl rfl (by decide +kernel) ⟨Nat.le_of_ble_eq_true rfl, Nat.le_of_ble_eq_true rfl⟩) hK (x_recv (ci := 3) hK hP rfl (q0 := 0) rfl) hP rfl hl.1 rfl (Nat.le_of_ble_eq_true rfl) dX3_findLeast_21 ⟨Nat.le_of_ble_eq_true rfl, Nat.le_of_ble_eq_true rfl⟩ (fun r_3 er_3 => ?_)
        have er_3 : r_3 = bI (exb (g 12) (g 8) (orM (g 27) (nI z) mm) n = true) := er_3
        subst er_3
        refine lv_if_eq (tgt := 103) hx hb dX3_findLeast_24 (by decide) (fun c_4 => ?_) (fun c_4 => ?_)
        · have c_4 := bI_eq c_4
          refine lv_iinc (v := nI (z + 1)) (lv' := [(2, .int (nI (z + 1))), (0, .ref o), (1, .int (nI few))]) hx hb dX3_findLeast_103 hl (k := 2) rfl (nI_1 _) (by decide) rfl (fun ls hl => ?_)
          refine lv_goto (tgt := 9) hx hb dX3_findLeast_106 (by decide) ?_
          have fhs_5_0 := c_4
          have hs_5 : flF (exE g n mm) (g 30) (z + 1) = (L, few, li) := by
            have hE : exE g n mm z = false := by simpa [exE] using c_4
            rw [flF, hs]; simp only [hE]
            first
              | (simp []; done)
              | (repeat' split) <;> first | rfl | (exfalso; simp at *; omega) | omega
          have q_6 : va_up (va_up g 29 (fun _ => nI (flF (exE g n mm) (g 30) (z + 1)).1)) 30 ((flF (exE g n mm) (g 30) (z + 1)).2.2) = va_up (va_up g 29 (fun _ => nI L)) 30 li := by rw [hs_5]
          exact ih (z + 1) (by omega) (by omega) H locs ls (by rw [q_6]; exact hP) (by rw [q_6]; exact hD) hS (by rw [hs_5]; exact lv_sub hl [1, 2, 0] rfl)
        · have c_4 := bI_ne c_4
          refine lv_aload_n hx hb dX3_findLeast_27 rfl (lv_at hl 0 rfl) ?_
          refine va_get (D := D) (ci := 3) (v := .int (nI L)) (C := RX3) (T := TX3) (N := 33) hx hb hts hinX3 hown hK hP 0 rfl rfl 29 (by decide) (hts (.fieldLink RX3 147 "TroubleCodesModel" "listed" "I") (mem_at 1 rfl)) (fun _ h9 => h9) rfl dX3_findLeast_28 ?_
          refine lv_if_eq (tgt := 42) hx hb dX3_findLeast_31 (by decide) (fun c_7 => ?_) (fun c_7 => ?_)
          · refine lv_aload_n hx hb dX3_findLeast_42 rfl (lv_at hl 0 rfl) ?_
            refine lv_aload_n hx hb dX3_findLeast_43 rfl (lv_at hl 0 rfl) ?_
            refine va_get (D := D) (ci := 3) (v := .int (nI L)) (C := RX3) (T := TX3) (N := 33) hx hb hts hinX3 hown hK hP 0 rfl rfl 29 (by decide) (hts (.fieldLink RX3 147 "TroubleCodesModel" "listed" "I") (mem_at 1 rfl)) (fun _ h9 => h9) rfl dX3_findLeast_44 ?_
            refine lv_if_le (tgt := 62) hx hb dX3_findLeast_47 (by decide) (fun c_8 => ?_) (fun c_8 => ?_)
            · refine lv_aload_n hx hb dX3_findLeast_62 rfl (lv_at hl 0 rfl) ?_
              refine va_get (D := D) (ci := 3) (v := .int (nI L)) (C := RX3) (T := TX3) (N := 33) hx hb hts hinX3 hown hK hP 0 rfl rfl 29 (by decide) (hts (.fieldLink RX3 147 "TroubleCodesModel" "listed" "I") (mem_at 1 rfl)) (fun _ h9 => h9) rfl dX3_findLeast_63 ?_
              refine va_put (D := D) (ci := 3) (v := .int (nI L)) (ty := .int) (C := RX3) (T := TX3) (N := 33) hx hb hts hinX3 tyX3 tyX3_ok nmX3 hown hK hP hD hS 0 rfl rfl 29 (by decide) (hts (.fieldLink RX3 147 "TroubleCodesModel" "listed" "I") (mem_at 1 rfl)) (fun _ h9 => h9) rfl (by decide +kernel) rfl rfl (Nat.le_of_ble_eq_true rfl) dX3_findLeast_66 (fun H locs hP hD hS => ?_)
              have hP : va_P D vwCl (mW cI cZ q o (va_up (va_up g 29 (fun _ => nI L)) 30 li)) H := hP
              have hD : va_D A (mW cI cZ q o (va_up (va_up g 29 (fun _ => nI L)) 30 li)) := hD
              refine lv_iload_n hx hb dX3_findLeast_69 rfl (lv_at hl 2 rfl) ?_
              refine x_rdS (As := [.int (nI z)]) (rest := []) ⟨hx, hb, hml, hown, hts⟩ (tX3_many l D cI cZ cC z hz16) (va_cwS 1 hts gX3_findLeast_X3_many rfl rfl rfl (by decide +kernel) ⟨Nat.le_of_ble_eq_true rfl, Nat.le_of_ble_eq_true rfl⟩) hK trivial rfl hl.1 rfl (Nat.le_of_ble_eq_true rfl) dX3_findLeast_70 ⟨Nat.le_of_ble_eq_true rfl, Nat.le_of_ble_eq_true rfl⟩ (fun r_9 er_9 => ?_)
              have er_9 : r_9 = nI (popG 16 z) := er_9
              subst er_9
              refine lv_istore_n (lv' := [(1, .int (nI (popG 16 z))), (0, .ref o), (2, .int (nI z))]) hx hb dX3_findLeast_73 rfl hl (by decide) rfl (fun ls hl => ?_)
              refine lv_aload_n hx hb dX3_findLeast_74 rfl (lv_at hl 1 rfl) ?_
              refine va_get (D := D) (ci := 3) (v := .int (nI L)) (C := RX3) (T := TX3) (N := 33) hx hb hts hinX3 hown hK hP 0 rfl rfl 29 (by decide) (hts (.fieldLink RX3 147 "TroubleCodesModel" "listed" "I") (mem_at 1 rfl)) (fun _ h9 => h9) rfl dX3_findLeast_75 ?_
              refine lv_bipush (v := 10) hx hb dX3_findLeast_78 (by decide) ?_
              refine lv_icmp_ge (tgt := 103) hx hb dX3_findLeast_80 (by decide) (fun c_10 => ?_) (fun c_10 => ?_)
              · refine lv_iinc (v := nI (z + 1)) (lv' := [(2, .int (nI (z + 1))), (1, .int (nI (popG 16 z))), (0, .ref o)]) hx hb dX3_findLeast_103 hl (k := 2) rfl (nI_1 _) (by decide) rfl (fun ls hl => ?_)
                refine lv_goto (tgt := 9) hx hb dX3_findLeast_106 (by decide) ?_
                have fhs_11_0 := c_4
                have fhs_11_1 := (show L = 0 from (nI_eq (a := L) (b := 0) (by omega) (by decide)).mp c_7)
                have fhs_11_2 := (show L = 0 from Nat.le_zero.mp ((nI_leI (a := L) (b := 0) (by omega) (by decide)).mp c_8))
                have fhs_11_3 := (show 10 ≤ L from (nI_leI (a := 10) (by decide) (by omega)).mp c_10)
                have hs_11 : flF (exE g n mm) (g 30) (z + 1) = (L, (popG 16 z), li) := by
                  have hE : exE g n mm z = true := c_4
                  rw [flF, hs]; simp only [hE]
                  first
                    | (simp [fhs_11_1, fhs_11_2, fhs_11_3]; done)
                    | (repeat' split) <;> first | rfl | (exfalso; simp at *; omega) | omega
                have q_12 : va_up (va_up g 29 (fun _ => nI (flF (exE g n mm) (g 30) (z + 1)).1)) 30 ((flF (exE g n mm) (g 30) (z + 1)).2.2) = va_up (va_up g 29 (fun _ => nI L)) 30 li := by rw [hs_11]
                exact ih (z + 1) (by omega) (by omega) H locs ls (by rw [q_12]; exact hP) (by rw [q_12]; exact hD) hS (by rw [hs_11]; exact lv_sub hl [2, 1, 0] rfl)
              · have hL9 : ¬ 10 ≤ L := fun h => c_10 ((nI_leI (a := 10) (by decide) (by omega)).mpr h)
                refine lv_aload_n hx hb dX3_findLeast_83 rfl (lv_at hl 1 rfl) ?_
                refine va_get (D := D) (ci := 3) (v := .ref (q 30)) (C := RX3) (T := TX3) (N := 33) hx hb hts hinX3 hown hK hP 0 rfl rfl 30 (by decide) (hts (.fieldLink RX3 84 "TroubleCodesModel" "list" "[I") (mem_at 3 rfl)) (fun _ h9 => h9) rfl dX3_findLeast_84 ?_
                refine lv_aload_n hx hb dX3_findLeast_87 rfl (lv_at hl 1 rfl) ?_
                refine va_get (D := D) (ci := 3) (v := .int (nI L)) (C := RX3) (T := TX3) (N := 33) hx hb hts hinX3 hown hK hP 0 rfl rfl 29 (by decide) (hts (.fieldLink RX3 147 "TroubleCodesModel" "listed" "I") (mem_at 1 rfl)) (fun _ h9 => h9) rfl dX3_findLeast_88 ?_
                refine lv_iload_n hx hb dX3_findLeast_91 rfl (lv_at hl 2 rfl) ?_
                refine x_iast (k := L) (f := li) (x := nI z) hx hb hK hP hD hS 24 rfl (by omega) (by decide) dX3_findLeast_92 (fun H locs hP hD hS => ?_)
                have hP : va_P D vwCl (mW cI cZ q o (va_up (va_up g 29 (fun _ => nI L)) 30 (upd li L (nI z)))) H := hP
                have hD : va_D A (mW cI cZ q o (va_up (va_up g 29 (fun _ => nI L)) 30 (upd li L (nI z)))) := hD
                refine lv_aload_n hx hb dX3_findLeast_93 rfl (lv_at hl 1 rfl) ?_
                refine lv_dup hx hb dX3_findLeast_94 rfl ?_
                refine va_get (D := D) (ci := 3) (v := .int (nI L)) (C := RX3) (T := TX3) (N := 33) hx hb hts hinX3 hown hK hP 0 rfl rfl 29 (by decide) (hts (.fieldLink RX3 147 "TroubleCodesModel" "listed" "I") (mem_at 1 rfl)) (fun _ h9 => h9) rfl dX3_findLeast_95 ?_
                refine lv_iconst (v := 1) hx hb dX3_findLeast_98 (by decide) ?_
                refine lv_iadd hx hb dX3_findLeast_99 ?_
                rw [nI_1]
                refine va_put (D := D) (ci := 3) (v := .int (nI (L + 1))) (ty := .int) (C := RX3) (T := TX3) (N := 33) hx hb hts hinX3 tyX3 tyX3_ok nmX3 hown hK hP hD hS 0 rfl rfl 29 (by decide) (hts (.fieldLink RX3 147 "TroubleCodesModel" "listed" "I") (mem_at 1 rfl)) (fun _ h9 => h9) rfl (by decide +kernel) rfl rfl (Nat.le_of_ble_eq_true rfl) dX3_findLeast_100 (fun H locs hP hD hS => ?_)
                have hP : va_P D vwCl (mW cI cZ q o (va_up (va_up g 29 (fun _ => nI (L + 1))) 30 (upd li L (nI z)))) H := hP
                have hD : va_D A (mW cI cZ q o (va_up (va_up g 29 (fun _ => nI (L + 1))) 30 (upd li L (nI z)))) := hD
                refine lv_iinc (v := nI (z + 1)) (lv' := [(2, .int (nI (z + 1))), (1, .int (nI (popG 16 z))), (0, .ref o)]) hx hb dX3_findLeast_103 hl (k := 2) rfl (nI_1 _) (by decide) rfl (fun ls hl => ?_)
                refine lv_goto (tgt := 9) hx hb dX3_findLeast_106 (by decide) ?_
                have fhs_13_0 := c_4
                have fhs_13_1 := (show L = 0 from (nI_eq (a := L) (b := 0) (by omega) (by decide)).mp c_7)
                have fhs_13_2 := (show L = 0 from Nat.le_zero.mp ((nI_leI (a := L) (b := 0) (by omega) (by decide)).mp c_8))
                have fhs_13_3 := (show ¬ 10 ≤ L from fun h => c_10 ((nI_leI (a := 10) (by decide) (by omega)).mpr h))
                have hs_13 : flF (exE g n mm) (g 30) (z + 1) = ((L + 1), (popG 16 z), upd li L (nI z)) := by
                  have hE : exE g n mm z = true := c_4
                  rw [flF, hs]; simp only [hE]
                  first
                    | (simp [fhs_13_1, fhs_13_2, fhs_13_3]; done)
                    | (repeat' split) <;> first | rfl | (exfalso; simp at *; omega) | omega
                have q_14 : va_up (va_up g 29 (fun _ => nI (flF (exE g n mm) (g 30) (z + 1)).1)) 30 ((flF (exE g n mm) (g 30) (z + 1)).2.2) = va_up (va_up g 29 (fun _ => nI (L + 1))) 30 (upd li L (nI z)) := by rw [hs_13]
                exact ih (z + 1) (by omega) (by omega) H locs ls (by rw [q_14]; exact hP) (by rw [q_14]; exact hD) hS (by rw [hs_13]; exact lv_sub hl [2, 1, 0] rfl)
            · refine lv_iload_n hx hb dX3_findLeast_50 rfl (lv_at hl 2 rfl) ?_
              refine x_rdS (As := [.int (nI z)]) (rest := [.ref o]) ⟨hx, hb, hml, hown, hts⟩ (tX3_many l D cI cZ cC z hz16) (va_cwS 1 hts gX3_findLeast_X3_many rfl rfl rfl (by decide +kernel) ⟨Nat.le_of_ble_eq_true rfl, Nat.le_of_ble_eq_true rfl⟩) hK trivial rfl hl.1 rfl (Nat.le_of_ble_eq_true rfl) dX3_findLeast_51 ⟨Nat.le_of_ble_eq_true rfl, Nat.le_of_ble_eq_true rfl⟩ (fun r_15 er_15 => ?_)
              have er_15 : r_15 = nI (popG 16 z) := er_15
              subst er_15
              refine lv_iload_n hx hb dX3_findLeast_54 rfl (lv_at hl 1 rfl) ?_
              refine lv_icmp_ge (tgt := 62) hx hb dX3_findLeast_55 (by decide) (fun c_16 => ?_) (fun c_16 => ?_)
              · refine lv_aload_n hx hb dX3_findLeast_62 rfl (lv_at hl 0 rfl) ?_
                refine va_get (D := D) (ci := 3) (v := .int (nI L)) (C := RX3) (T := TX3) (N := 33) hx hb hts hinX3 hown hK hP 0 rfl rfl 29 (by decide) (hts (.fieldLink RX3 147 "TroubleCodesModel" "listed" "I") (mem_at 1 rfl)) (fun _ h9 => h9) rfl dX3_findLeast_63 ?_
                refine va_put (D := D) (ci := 3) (v := .int (nI L)) (ty := .int) (C := RX3) (T := TX3) (N := 33) hx hb hts hinX3 tyX3 tyX3_ok nmX3 hown hK hP hD hS 0 rfl rfl 29 (by decide) (hts (.fieldLink RX3 147 "TroubleCodesModel" "listed" "I") (mem_at 1 rfl)) (fun _ h9 => h9) rfl (by decide +kernel) rfl rfl (Nat.le_of_ble_eq_true rfl) dX3_findLeast_66 (fun H locs hP hD hS => ?_)
                have hP : va_P D vwCl (mW cI cZ q o (va_up (va_up g 29 (fun _ => nI L)) 30 li)) H := hP
                have hD : va_D A (mW cI cZ q o (va_up (va_up g 29 (fun _ => nI L)) 30 li)) := hD
                refine lv_iload_n hx hb dX3_findLeast_69 rfl (lv_at hl 2 rfl) ?_
                refine x_rdS (As := [.int (nI z)]) (rest := []) ⟨hx, hb, hml, hown, hts⟩ (tX3_many l D cI cZ cC z hz16) (va_cwS 1 hts gX3_findLeast_X3_many rfl rfl rfl (by decide +kernel) ⟨Nat.le_of_ble_eq_true rfl, Nat.le_of_ble_eq_true rfl⟩) hK trivial rfl hl.1 rfl (Nat.le_of_ble_eq_true rfl) dX3_findLeast_70 ⟨Nat.le_of_ble_eq_true rfl, Nat.le_of_ble_eq_true rfl⟩ (fun r_17 er_17 => ?_)
                have er_17 : r_17 = nI (popG 16 z) := er_17
                subst er_17
                refine lv_istore_n (lv' := [(1, .int (nI (popG 16 z))), (0, .ref o), (2, .int (nI z))]) hx hb dX3_findLeast_73 rfl hl (by decide) rfl (fun ls hl => ?_)
                refine lv_aload_n hx hb dX3_findLeast_74 rfl (lv_at hl 1 rfl) ?_
                refine va_get (D := D) (ci := 3) (v := .int (nI L)) (C := RX3) (T := TX3) (N := 33) hx hb hts hinX3 hown hK hP 0 rfl rfl 29 (by decide) (hts (.fieldLink RX3 147 "TroubleCodesModel" "listed" "I") (mem_at 1 rfl)) (fun _ h9 => h9) rfl dX3_findLeast_75 ?_
                refine lv_bipush (v := 10) hx hb dX3_findLeast_78 (by decide) ?_
                refine lv_icmp_ge (tgt := 103) hx hb dX3_findLeast_80 (by decide) (fun c_18 => ?_) (fun c_18 => ?_)
                · refine lv_iinc (v := nI (z + 1)) (lv' := [(2, .int (nI (z + 1))), (1, .int (nI (popG 16 z))), (0, .ref o)]) hx hb dX3_findLeast_103 hl (k := 2) rfl (nI_1 _) (by decide) rfl (fun ls hl => ?_)
                  refine lv_goto (tgt := 9) hx hb dX3_findLeast_106 (by decide) ?_
                  have fhs_19_0 := c_4
                  have fhs_19_1 := (show L = 0 from (nI_eq (a := L) (b := 0) (by omega) (by decide)).mp c_7)
                  have fhs_19_2 := (show ¬ L = 0 from fun h => c_8 (by rw [h]; decide))
                  have fhs_19_3 := (show few ≤ popG 16 z from (nI_leI (by omega) (by omega)).mp c_16)
                  have fhs_19_4 := (show 10 ≤ L from (nI_leI (a := 10) (by decide) (by omega)).mp c_18)
                  have hs_19 : flF (exE g n mm) (g 30) (z + 1) = (L, (popG 16 z), li) := by
                    have hE : exE g n mm z = true := c_4
                    rw [flF, hs]; simp only [hE]
                    first
                      | (simp [fhs_19_1, fhs_19_2, fhs_19_3, fhs_19_4]; done)
                      | (repeat' split) <;> first | rfl | (exfalso; simp at *; omega) | omega
                  have q_20 : va_up (va_up g 29 (fun _ => nI (flF (exE g n mm) (g 30) (z + 1)).1)) 30 ((flF (exE g n mm) (g 30) (z + 1)).2.2) = va_up (va_up g 29 (fun _ => nI L)) 30 li := by rw [hs_19]
                  exact ih (z + 1) (by omega) (by omega) H locs ls (by rw [q_20]; exact hP) (by rw [q_20]; exact hD) hS (by rw [hs_19]; exact lv_sub hl [2, 1, 0] rfl)
                · have hL9 : ¬ 10 ≤ L := fun h => c_18 ((nI_leI (a := 10) (by decide) (by omega)).mpr h)
                  refine lv_aload_n hx hb dX3_findLeast_83 rfl (lv_at hl 1 rfl) ?_
                  refine va_get (D := D) (ci := 3) (v := .ref (q 30)) (C := RX3) (T := TX3) (N := 33) hx hb hts hinX3 hown hK hP 0 rfl rfl 30 (by decide) (hts (.fieldLink RX3 84 "TroubleCodesModel" "list" "[I") (mem_at 3 rfl)) (fun _ h9 => h9) rfl dX3_findLeast_84 ?_
                  refine lv_aload_n hx hb dX3_findLeast_87 rfl (lv_at hl 1 rfl) ?_
                  refine va_get (D := D) (ci := 3) (v := .int (nI L)) (C := RX3) (T := TX3) (N := 33) hx hb hts hinX3 hown hK hP 0 rfl rfl 29 (by decide) (hts (.fieldLink RX3 147 "TroubleCodesModel" "listed" "I") (mem_at 1 rfl)) (fun _ h9 => h9) rfl dX3_findLeast_88 ?_
                  refine lv_iload_n hx hb dX3_findLeast_91 rfl (lv_at hl 2 rfl) ?_
                  refine x_iast (k := L) (f := li) (x := nI z) hx hb hK hP hD hS 24 rfl (by omega) (by decide) dX3_findLeast_92 (fun H locs hP hD hS => ?_)
                  have hP : va_P D vwCl (mW cI cZ q o (va_up (va_up g 29 (fun _ => nI L)) 30 (upd li L (nI z)))) H := hP
                  have hD : va_D A (mW cI cZ q o (va_up (va_up g 29 (fun _ => nI L)) 30 (upd li L (nI z)))) := hD
                  refine lv_aload_n hx hb dX3_findLeast_93 rfl (lv_at hl 1 rfl) ?_
                  refine lv_dup hx hb dX3_findLeast_94 rfl ?_
                  refine va_get (D := D) (ci := 3) (v := .int (nI L)) (C := RX3) (T := TX3) (N := 33) hx hb hts hinX3 hown hK hP 0 rfl rfl 29 (by decide) (hts (.fieldLink RX3 147 "TroubleCodesModel" "listed" "I") (mem_at 1 rfl)) (fun _ h9 => h9) rfl dX3_findLeast_95 ?_
                  refine lv_iconst (v := 1) hx hb dX3_findLeast_98 (by decide) ?_
                  refine lv_iadd hx hb dX3_findLeast_99 ?_
                  rw [nI_1]
                  refine va_put (D := D) (ci := 3) (v := .int (nI (L + 1))) (ty := .int) (C := RX3) (T := TX3) (N := 33) hx hb hts hinX3 tyX3 tyX3_ok nmX3 hown hK hP hD hS 0 rfl rfl 29 (by decide) (hts (.fieldLink RX3 147 "TroubleCodesModel" "listed" "I") (mem_at 1 rfl)) (fun _ h9 => h9) rfl (by decide +kernel) rfl rfl (Nat.le_of_ble_eq_true rfl) dX3_findLeast_100 (fun H locs hP hD hS => ?_)
                  have hP : va_P D vwCl (mW cI cZ q o (va_up (va_up g 29 (fun _ => nI (L + 1))) 30 (upd li L (nI z)))) H := hP
                  have hD : va_D A (mW cI cZ q o (va_up (va_up g 29 (fun _ => nI (L + 1))) 30 (upd li L (nI z)))) := hD
                  refine lv_iinc (v := nI (z + 1)) (lv' := [(2, .int (nI (z + 1))), (1, .int (nI (popG 16 z))), (0, .ref o)]) hx hb dX3_findLeast_103 hl (k := 2) rfl (nI_1 _) (by decide) rfl (fun ls hl => ?_)
                  refine lv_goto (tgt := 9) hx hb dX3_findLeast_106 (by decide) ?_
                  have fhs_21_0 := c_4
                  have fhs_21_1 := (show L = 0 from (nI_eq (a := L) (b := 0) (by omega) (by decide)).mp c_7)
                  have fhs_21_2 := (show ¬ L = 0 from fun h => c_8 (by rw [h]; decide))
                  have fhs_21_3 := (show few ≤ popG 16 z from (nI_leI (by omega) (by omega)).mp c_16)
                  have fhs_21_4 := (show ¬ 10 ≤ L from fun h => c_18 ((nI_leI (a := 10) (by decide) (by omega)).mpr h))
                  have hs_21 : flF (exE g n mm) (g 30) (z + 1) = ((L + 1), (popG 16 z), upd li L (nI z)) := by
                    have hE : exE g n mm z = true := c_4
                    rw [flF, hs]; simp only [hE]
                    first
                      | (simp [fhs_21_1, fhs_21_2, fhs_21_3, fhs_21_4]; done)
                      | (repeat' split) <;> first | rfl | (exfalso; simp at *; omega) | omega
                  have q_22 : va_up (va_up g 29 (fun _ => nI (flF (exE g n mm) (g 30) (z + 1)).1)) 30 ((flF (exE g n mm) (g 30) (z + 1)).2.2) = va_up (va_up g 29 (fun _ => nI (L + 1))) 30 (upd li L (nI z)) := by rw [hs_21]
                  exact ih (z + 1) (by omega) (by omega) H locs ls (by rw [q_22]; exact hP) (by rw [q_22]; exact hD) hS (by rw [hs_21]; exact lv_sub hl [2, 1, 0] rfl)
              · refine lv_iconst (v := 0) hx hb dX3_findLeast_58 (by decide) ?_
                refine lv_goto (tgt := 66) hx hb dX3_findLeast_59 (by decide) ?_
                refine W.eq (g2 := F0 m 66 ls [.int (nI 0), .ref o]) rfl ?_
                refine va_put (D := D) (ci := 3) (v := .int (nI 0)) (ty := .int) (C := RX3) (T := TX3) (N := 33) hx hb hts hinX3 tyX3 tyX3_ok nmX3 hown hK hP hD hS 0 rfl rfl 29 (by decide) (hts (.fieldLink RX3 147 "TroubleCodesModel" "listed" "I") (mem_at 1 rfl)) (fun _ h9 => h9) rfl (by decide +kernel) rfl rfl (Nat.le_of_ble_eq_true rfl) dX3_findLeast_66 (fun H locs hP hD hS => ?_)
                have hP : va_P D vwCl (mW cI cZ q o (va_up (va_up g 29 (fun _ => nI 0)) 30 li)) H := hP
                have hD : va_D A (mW cI cZ q o (va_up (va_up g 29 (fun _ => nI 0)) 30 li)) := hD
                refine lv_iload_n hx hb dX3_findLeast_69 rfl (lv_at hl 2 rfl) ?_
                refine x_rdS (As := [.int (nI z)]) (rest := []) ⟨hx, hb, hml, hown, hts⟩ (tX3_many l D cI cZ cC z hz16) (va_cwS 1 hts gX3_findLeast_X3_many rfl rfl rfl (by decide +kernel) ⟨Nat.le_of_ble_eq_true rfl, Nat.le_of_ble_eq_true rfl⟩) hK trivial rfl hl.1 rfl (Nat.le_of_ble_eq_true rfl) dX3_findLeast_70 ⟨Nat.le_of_ble_eq_true rfl, Nat.le_of_ble_eq_true rfl⟩ (fun r_23 er_23 => ?_)
                have er_23 : r_23 = nI (popG 16 z) := er_23
                subst er_23
                refine lv_istore_n (lv' := [(1, .int (nI (popG 16 z))), (0, .ref o), (2, .int (nI z))]) hx hb dX3_findLeast_73 rfl hl (by decide) rfl (fun ls hl => ?_)
                refine lv_aload_n hx hb dX3_findLeast_74 rfl (lv_at hl 1 rfl) ?_
                refine va_get (D := D) (ci := 3) (v := .int (nI 0)) (C := RX3) (T := TX3) (N := 33) hx hb hts hinX3 hown hK hP 0 rfl rfl 29 (by decide) (hts (.fieldLink RX3 147 "TroubleCodesModel" "listed" "I") (mem_at 1 rfl)) (fun _ h9 => h9) rfl dX3_findLeast_75 ?_
                refine lv_bipush (v := 10) hx hb dX3_findLeast_78 (by decide) ?_
                refine lv_icmp_ge (tgt := 103) hx hb dX3_findLeast_80 (by decide) (fun c_24 => ?_) (fun c_24 => ?_)
                · exact absurd c_24 (by decide)
                · refine lv_aload_n hx hb dX3_findLeast_83 rfl (lv_at hl 1 rfl) ?_
                  refine va_get (D := D) (ci := 3) (v := .ref (q 30)) (C := RX3) (T := TX3) (N := 33) hx hb hts hinX3 hown hK hP 0 rfl rfl 30 (by decide) (hts (.fieldLink RX3 84 "TroubleCodesModel" "list" "[I") (mem_at 3 rfl)) (fun _ h9 => h9) rfl dX3_findLeast_84 ?_
                  refine lv_aload_n hx hb dX3_findLeast_87 rfl (lv_at hl 1 rfl) ?_
                  refine va_get (D := D) (ci := 3) (v := .int (nI 0)) (C := RX3) (T := TX3) (N := 33) hx hb hts hinX3 hown hK hP 0 rfl rfl 29 (by decide) (hts (.fieldLink RX3 147 "TroubleCodesModel" "listed" "I") (mem_at 1 rfl)) (fun _ h9 => h9) rfl dX3_findLeast_88 ?_
                  refine lv_iload_n hx hb dX3_findLeast_91 rfl (lv_at hl 2 rfl) ?_
                  refine x_iast (k := 0) (f := li) (x := nI z) hx hb hK hP hD hS 24 rfl (by decide) (by decide) dX3_findLeast_92 (fun H locs hP hD hS => ?_)
                  have hP : va_P D vwCl (mW cI cZ q o (va_up (va_up g 29 (fun _ => nI 0)) 30 (upd li 0 (nI z)))) H := hP
                  have hD : va_D A (mW cI cZ q o (va_up (va_up g 29 (fun _ => nI 0)) 30 (upd li 0 (nI z)))) := hD
                  refine lv_aload_n hx hb dX3_findLeast_93 rfl (lv_at hl 1 rfl) ?_
                  refine lv_dup hx hb dX3_findLeast_94 rfl ?_
                  refine va_get (D := D) (ci := 3) (v := .int (nI 0)) (C := RX3) (T := TX3) (N := 33) hx hb hts hinX3 hown hK hP 0 rfl rfl 29 (by decide) (hts (.fieldLink RX3 147 "TroubleCodesModel" "listed" "I") (mem_at 1 rfl)) (fun _ h9 => h9) rfl dX3_findLeast_95 ?_
                  refine lv_iconst (v := 1) hx hb dX3_findLeast_98 (by decide) ?_
                  refine lv_iadd hx hb dX3_findLeast_99 ?_
                  rw [nI_1]
                  refine va_put (D := D) (ci := 3) (v := .int (nI (0 + 1))) (ty := .int) (C := RX3) (T := TX3) (N := 33) hx hb hts hinX3 tyX3 tyX3_ok nmX3 hown hK hP hD hS 0 rfl rfl 29 (by decide) (hts (.fieldLink RX3 147 "TroubleCodesModel" "listed" "I") (mem_at 1 rfl)) (fun _ h9 => h9) rfl (by decide +kernel) rfl rfl (Nat.le_of_ble_eq_true rfl) dX3_findLeast_100 (fun H locs hP hD hS => ?_)
                  have hP : va_P D vwCl (mW cI cZ q o (va_up (va_up g 29 (fun _ => nI (0 + 1))) 30 (upd li 0 (nI z)))) H := hP
                  have hD : va_D A (mW cI cZ q o (va_up (va_up g 29 (fun _ => nI (0 + 1))) 30 (upd li 0 (nI z)))) := hD
                  refine lv_iinc (v := nI (z + 1)) (lv' := [(2, .int (nI (z + 1))), (1, .int (nI (popG 16 z))), (0, .ref o)]) hx hb dX3_findLeast_103 hl (k := 2) rfl (nI_1 _) (by decide) rfl (fun ls hl => ?_)
                  refine lv_goto (tgt := 9) hx hb dX3_findLeast_106 (by decide) ?_
                  have fhs_25_0 := c_4
                  have fhs_25_1 := (show L = 0 from (nI_eq (a := L) (b := 0) (by omega) (by decide)).mp c_7)
                  have fhs_25_2 := (show ¬ L = 0 from fun h => c_8 (by rw [h]; decide))
                  have fhs_25_3 := (show ¬ few ≤ popG 16 z from fun h => c_16 ((nI_leI (by omega) (by omega)).mpr h))
                  have hs_25 : flF (exE g n mm) (g 30) (z + 1) = ((0 + 1), (popG 16 z), upd li 0 (nI z)) := by
                    have hE : exE g n mm z = true := c_4
                    rw [flF, hs]; simp only [hE]
                    first
                      | (simp [fhs_25_1, fhs_25_2, fhs_25_3]; done)
                      | (repeat' split) <;> first | rfl | (exfalso; simp at *; omega) | omega
                  have q_26 : va_up (va_up g 29 (fun _ => nI (flF (exE g n mm) (g 30) (z + 1)).1)) 30 ((flF (exE g n mm) (g 30) (z + 1)).2.2) = va_up (va_up g 29 (fun _ => nI (0 + 1))) 30 (upd li 0 (nI z)) := by rw [hs_25]
                  exact ih (z + 1) (by omega) (by omega) H locs ls (by rw [q_26]; exact hP) (by rw [q_26]; exact hD) hS (by rw [hs_25]; exact lv_sub hl [2, 1, 0] rfl)
          · refine lv_iload_n hx hb dX3_findLeast_34 rfl (lv_at hl 2 rfl) ?_
            refine x_rdS (As := [.int (nI z)]) (rest := []) ⟨hx, hb, hml, hown, hts⟩ (tX3_many l D cI cZ cC z hz16) (va_cwS 1 hts gX3_findLeast_X3_many rfl rfl rfl (by decide +kernel) ⟨Nat.le_of_ble_eq_true rfl, Nat.le_of_ble_eq_true rfl⟩) hK trivial rfl hl.1 rfl (Nat.le_of_ble_eq_true rfl) dX3_findLeast_35 ⟨Nat.le_of_ble_eq_true rfl, Nat.le_of_ble_eq_true rfl⟩ (fun r_27 er_27 => ?_)
            have er_27 : r_27 = nI (popG 16 z) := er_27
            subst er_27
            refine lv_iload_n hx hb dX3_findLeast_38 rfl (lv_at hl 1 rfl) ?_
            refine lv_icmp_gt (tgt := 103) hx hb dX3_findLeast_39 (by decide) (fun c_28 => ?_) (fun c_28 => ?_)
            · refine lv_iinc (v := nI (z + 1)) (lv' := [(2, .int (nI (z + 1))), (0, .ref o), (1, .int (nI few))]) hx hb dX3_findLeast_103 hl (k := 2) rfl (nI_1 _) (by decide) rfl (fun ls hl => ?_)
              refine lv_goto (tgt := 9) hx hb dX3_findLeast_106 (by decide) ?_
              have fhs_29_0 := c_4
              have fhs_29_1 := (show ¬ L = 0 from fun h => c_7 (by rw [h]; rfl))
              have fhs_29_2 := (show few < popG 16 z from (nI_ltI (by omega) (by omega)).mp c_28)
              have hs_29 : flF (exE g n mm) (g 30) (z + 1) = (L, few, li) := by
                have hE : exE g n mm z = true := c_4
                rw [flF, hs]; simp only [hE]
                first
                  | (simp [fhs_29_1, fhs_29_2]; done)
                  | (repeat' split) <;> first | rfl | (exfalso; simp at *; omega) | omega
              have q_30 : va_up (va_up g 29 (fun _ => nI (flF (exE g n mm) (g 30) (z + 1)).1)) 30 ((flF (exE g n mm) (g 30) (z + 1)).2.2) = va_up (va_up g 29 (fun _ => nI L)) 30 li := by rw [hs_29]
              exact ih (z + 1) (by omega) (by omega) H locs ls (by rw [q_30]; exact hP) (by rw [q_30]; exact hD) hS (by rw [hs_29]; exact lv_sub hl [1, 2, 0] rfl)
            · refine lv_aload_n hx hb dX3_findLeast_42 rfl (lv_at hl 0 rfl) ?_
              refine lv_aload_n hx hb dX3_findLeast_43 rfl (lv_at hl 0 rfl) ?_
              refine va_get (D := D) (ci := 3) (v := .int (nI L)) (C := RX3) (T := TX3) (N := 33) hx hb hts hinX3 hown hK hP 0 rfl rfl 29 (by decide) (hts (.fieldLink RX3 147 "TroubleCodesModel" "listed" "I") (mem_at 1 rfl)) (fun _ h9 => h9) rfl dX3_findLeast_44 ?_
              refine lv_if_le (tgt := 62) hx hb dX3_findLeast_47 (by decide) (fun c_31 => ?_) (fun c_31 => ?_)
              · refine lv_aload_n hx hb dX3_findLeast_62 rfl (lv_at hl 0 rfl) ?_
                refine va_get (D := D) (ci := 3) (v := .int (nI L)) (C := RX3) (T := TX3) (N := 33) hx hb hts hinX3 hown hK hP 0 rfl rfl 29 (by decide) (hts (.fieldLink RX3 147 "TroubleCodesModel" "listed" "I") (mem_at 1 rfl)) (fun _ h9 => h9) rfl dX3_findLeast_63 ?_
                refine va_put (D := D) (ci := 3) (v := .int (nI L)) (ty := .int) (C := RX3) (T := TX3) (N := 33) hx hb hts hinX3 tyX3 tyX3_ok nmX3 hown hK hP hD hS 0 rfl rfl 29 (by decide) (hts (.fieldLink RX3 147 "TroubleCodesModel" "listed" "I") (mem_at 1 rfl)) (fun _ h9 => h9) rfl (by decide +kernel) rfl rfl (Nat.le_of_ble_eq_true rfl) dX3_findLeast_66 (fun H locs hP hD hS => ?_)
                have hP : va_P D vwCl (mW cI cZ q o (va_up (va_up g 29 (fun _ => nI L)) 30 li)) H := hP
                have hD : va_D A (mW cI cZ q o (va_up (va_up g 29 (fun _ => nI L)) 30 li)) := hD
                refine lv_iload_n hx hb dX3_findLeast_69 rfl (lv_at hl 2 rfl) ?_
                refine x_rdS (As := [.int (nI z)]) (rest := []) ⟨hx, hb, hml, hown, hts⟩ (tX3_many l D cI cZ cC z hz16) (va_cwS 1 hts gX3_findLeast_X3_many rfl rfl rfl (by decide +kernel) ⟨Nat.le_of_ble_eq_true rfl, Nat.le_of_ble_eq_true rfl⟩) hK trivial rfl hl.1 rfl (Nat.le_of_ble_eq_true rfl) dX3_findLeast_70 ⟨Nat.le_of_ble_eq_true rfl, Nat.le_of_ble_eq_true rfl⟩ (fun r_32 er_32 => ?_)
                have er_32 : r_32 = nI (popG 16 z) := er_32
                subst er_32
                refine lv_istore_n (lv' := [(1, .int (nI (popG 16 z))), (0, .ref o), (2, .int (nI z))]) hx hb dX3_findLeast_73 rfl hl (by decide) rfl (fun ls hl => ?_)
                refine lv_aload_n hx hb dX3_findLeast_74 rfl (lv_at hl 1 rfl) ?_
                refine va_get (D := D) (ci := 3) (v := .int (nI L)) (C := RX3) (T := TX3) (N := 33) hx hb hts hinX3 hown hK hP 0 rfl rfl 29 (by decide) (hts (.fieldLink RX3 147 "TroubleCodesModel" "listed" "I") (mem_at 1 rfl)) (fun _ h9 => h9) rfl dX3_findLeast_75 ?_
                refine lv_bipush (v := 10) hx hb dX3_findLeast_78 (by decide) ?_
                refine lv_icmp_ge (tgt := 103) hx hb dX3_findLeast_80 (by decide) (fun c_33 => ?_) (fun c_33 => ?_)
                · refine lv_iinc (v := nI (z + 1)) (lv' := [(2, .int (nI (z + 1))), (1, .int (nI (popG 16 z))), (0, .ref o)]) hx hb dX3_findLeast_103 hl (k := 2) rfl (nI_1 _) (by decide) rfl (fun ls hl => ?_)
                  refine lv_goto (tgt := 9) hx hb dX3_findLeast_106 (by decide) ?_
                  have fhs_34_0 := c_4
                  have fhs_34_1 := (show ¬ L = 0 from fun h => c_7 (by rw [h]; rfl))
                  have fhs_34_2 := (show ¬ few < popG 16 z from fun h => c_28 ((nI_ltI (by omega) (by omega)).mpr h))
                  have fhs_34_3 := (show L = 0 from Nat.le_zero.mp ((nI_leI (a := L) (b := 0) (by omega) (by decide)).mp c_31))
                  have fhs_34_4 := (show 10 ≤ L from (nI_leI (a := 10) (by decide) (by omega)).mp c_33)
                  have hs_34 : flF (exE g n mm) (g 30) (z + 1) = (L, (popG 16 z), li) := by
                    have hE : exE g n mm z = true := c_4
                    rw [flF, hs]; simp only [hE]
                    first
                      | (simp [fhs_34_1, fhs_34_2, fhs_34_3, fhs_34_4]; done)
                      | (repeat' split) <;> first | rfl | (exfalso; simp at *; omega) | omega
                  have q_35 : va_up (va_up g 29 (fun _ => nI (flF (exE g n mm) (g 30) (z + 1)).1)) 30 ((flF (exE g n mm) (g 30) (z + 1)).2.2) = va_up (va_up g 29 (fun _ => nI L)) 30 li := by rw [hs_34]
                  exact ih (z + 1) (by omega) (by omega) H locs ls (by rw [q_35]; exact hP) (by rw [q_35]; exact hD) hS (by rw [hs_34]; exact lv_sub hl [2, 1, 0] rfl)
                · have hL9 : ¬ 10 ≤ L := fun h => c_33 ((nI_leI (a := 10) (by decide) (by omega)).mpr h)
                  refine lv_aload_n hx hb dX3_findLeast_83 rfl (lv_at hl 1 rfl) ?_
                  refine va_get (D := D) (ci := 3) (v := .ref (q 30)) (C := RX3) (T := TX3) (N := 33) hx hb hts hinX3 hown hK hP 0 rfl rfl 30 (by decide) (hts (.fieldLink RX3 84 "TroubleCodesModel" "list" "[I") (mem_at 3 rfl)) (fun _ h9 => h9) rfl dX3_findLeast_84 ?_
                  refine lv_aload_n hx hb dX3_findLeast_87 rfl (lv_at hl 1 rfl) ?_
                  refine va_get (D := D) (ci := 3) (v := .int (nI L)) (C := RX3) (T := TX3) (N := 33) hx hb hts hinX3 hown hK hP 0 rfl rfl 29 (by decide) (hts (.fieldLink RX3 147 "TroubleCodesModel" "listed" "I") (mem_at 1 rfl)) (fun _ h9 => h9) rfl dX3_findLeast_88 ?_
                  refine lv_iload_n hx hb dX3_findLeast_91 rfl (lv_at hl 2 rfl) ?_
                  refine x_iast (k := L) (f := li) (x := nI z) hx hb hK hP hD hS 24 rfl (by omega) (by decide) dX3_findLeast_92 (fun H locs hP hD hS => ?_)
                  have hP : va_P D vwCl (mW cI cZ q o (va_up (va_up g 29 (fun _ => nI L)) 30 (upd li L (nI z)))) H := hP
                  have hD : va_D A (mW cI cZ q o (va_up (va_up g 29 (fun _ => nI L)) 30 (upd li L (nI z)))) := hD
                  refine lv_aload_n hx hb dX3_findLeast_93 rfl (lv_at hl 1 rfl) ?_
                  refine lv_dup hx hb dX3_findLeast_94 rfl ?_
                  refine va_get (D := D) (ci := 3) (v := .int (nI L)) (C := RX3) (T := TX3) (N := 33) hx hb hts hinX3 hown hK hP 0 rfl rfl 29 (by decide) (hts (.fieldLink RX3 147 "TroubleCodesModel" "listed" "I") (mem_at 1 rfl)) (fun _ h9 => h9) rfl dX3_findLeast_95 ?_
                  refine lv_iconst (v := 1) hx hb dX3_findLeast_98 (by decide) ?_
                  refine lv_iadd hx hb dX3_findLeast_99 ?_
                  rw [nI_1]
                  refine va_put (D := D) (ci := 3) (v := .int (nI (L + 1))) (ty := .int) (C := RX3) (T := TX3) (N := 33) hx hb hts hinX3 tyX3 tyX3_ok nmX3 hown hK hP hD hS 0 rfl rfl 29 (by decide) (hts (.fieldLink RX3 147 "TroubleCodesModel" "listed" "I") (mem_at 1 rfl)) (fun _ h9 => h9) rfl (by decide +kernel) rfl rfl (Nat.le_of_ble_eq_true rfl) dX3_findLeast_100 (fun H locs hP hD hS => ?_)
                  have hP : va_P D vwCl (mW cI cZ q o (va_up (va_up g 29 (fun _ => nI (L + 1))) 30 (upd li L (nI z)))) H := hP
                  have hD : va_D A (mW cI cZ q o (va_up (va_up g 29 (fun _ => nI (L + 1))) 30 (upd li L (nI z)))) := hD
                  refine lv_iinc (v := nI (z + 1)) (lv' := [(2, .int (nI (z + 1))), (1, .int (nI (popG 16 z))), (0, .ref o)]) hx hb dX3_findLeast_103 hl (k := 2) rfl (nI_1 _) (by decide) rfl (fun ls hl => ?_)
                  refine lv_goto (tgt := 9) hx hb dX3_findLeast_106 (by decide) ?_
                  have fhs_36_0 := c_4
                  have fhs_36_1 := (show ¬ L = 0 from fun h => c_7 (by rw [h]; rfl))
                  have fhs_36_2 := (show ¬ few < popG 16 z from fun h => c_28 ((nI_ltI (by omega) (by omega)).mpr h))
                  have fhs_36_3 := (show L = 0 from Nat.le_zero.mp ((nI_leI (a := L) (b := 0) (by omega) (by decide)).mp c_31))
                  have fhs_36_4 := (show ¬ 10 ≤ L from fun h => c_33 ((nI_leI (a := 10) (by decide) (by omega)).mpr h))
                  have hs_36 : flF (exE g n mm) (g 30) (z + 1) = ((L + 1), (popG 16 z), upd li L (nI z)) := by
                    have hE : exE g n mm z = true := c_4
                    rw [flF, hs]; simp only [hE]
                    first
                      | (simp [fhs_36_1, fhs_36_2, fhs_36_3, fhs_36_4]; done)
                      | (repeat' split) <;> first | rfl | (exfalso; simp at *; omega) | omega
                  have q_37 : va_up (va_up g 29 (fun _ => nI (flF (exE g n mm) (g 30) (z + 1)).1)) 30 ((flF (exE g n mm) (g 30) (z + 1)).2.2) = va_up (va_up g 29 (fun _ => nI (L + 1))) 30 (upd li L (nI z)) := by rw [hs_36]
                  exact ih (z + 1) (by omega) (by omega) H locs ls (by rw [q_37]; exact hP) (by rw [q_37]; exact hD) hS (by rw [hs_36]; exact lv_sub hl [2, 1, 0] rfl)
              · refine lv_iload_n hx hb dX3_findLeast_50 rfl (lv_at hl 2 rfl) ?_
                refine x_rdS (As := [.int (nI z)]) (rest := [.ref o]) ⟨hx, hb, hml, hown, hts⟩ (tX3_many l D cI cZ cC z hz16) (va_cwS 1 hts gX3_findLeast_X3_many rfl rfl rfl (by decide +kernel) ⟨Nat.le_of_ble_eq_true rfl, Nat.le_of_ble_eq_true rfl⟩) hK trivial rfl hl.1 rfl (Nat.le_of_ble_eq_true rfl) dX3_findLeast_51 ⟨Nat.le_of_ble_eq_true rfl, Nat.le_of_ble_eq_true rfl⟩ (fun r_38 er_38 => ?_)
                have er_38 : r_38 = nI (popG 16 z) := er_38
                subst er_38
                refine lv_iload_n hx hb dX3_findLeast_54 rfl (lv_at hl 1 rfl) ?_
                refine lv_icmp_ge (tgt := 62) hx hb dX3_findLeast_55 (by decide) (fun c_39 => ?_) (fun c_39 => ?_)
                · refine lv_aload_n hx hb dX3_findLeast_62 rfl (lv_at hl 0 rfl) ?_
                  refine va_get (D := D) (ci := 3) (v := .int (nI L)) (C := RX3) (T := TX3) (N := 33) hx hb hts hinX3 hown hK hP 0 rfl rfl 29 (by decide) (hts (.fieldLink RX3 147 "TroubleCodesModel" "listed" "I") (mem_at 1 rfl)) (fun _ h9 => h9) rfl dX3_findLeast_63 ?_
                  refine va_put (D := D) (ci := 3) (v := .int (nI L)) (ty := .int) (C := RX3) (T := TX3) (N := 33) hx hb hts hinX3 tyX3 tyX3_ok nmX3 hown hK hP hD hS 0 rfl rfl 29 (by decide) (hts (.fieldLink RX3 147 "TroubleCodesModel" "listed" "I") (mem_at 1 rfl)) (fun _ h9 => h9) rfl (by decide +kernel) rfl rfl (Nat.le_of_ble_eq_true rfl) dX3_findLeast_66 (fun H locs hP hD hS => ?_)
                  have hP : va_P D vwCl (mW cI cZ q o (va_up (va_up g 29 (fun _ => nI L)) 30 li)) H := hP
                  have hD : va_D A (mW cI cZ q o (va_up (va_up g 29 (fun _ => nI L)) 30 li)) := hD
                  refine lv_iload_n hx hb dX3_findLeast_69 rfl (lv_at hl 2 rfl) ?_
                  refine x_rdS (As := [.int (nI z)]) (rest := []) ⟨hx, hb, hml, hown, hts⟩ (tX3_many l D cI cZ cC z hz16) (va_cwS 1 hts gX3_findLeast_X3_many rfl rfl rfl (by decide +kernel) ⟨Nat.le_of_ble_eq_true rfl, Nat.le_of_ble_eq_true rfl⟩) hK trivial rfl hl.1 rfl (Nat.le_of_ble_eq_true rfl) dX3_findLeast_70 ⟨Nat.le_of_ble_eq_true rfl, Nat.le_of_ble_eq_true rfl⟩ (fun r_40 er_40 => ?_)
                  have er_40 : r_40 = nI (popG 16 z) := er_40
                  subst er_40
                  refine lv_istore_n (lv' := [(1, .int (nI (popG 16 z))), (0, .ref o), (2, .int (nI z))]) hx hb dX3_findLeast_73 rfl hl (by decide) rfl (fun ls hl => ?_)
                  refine lv_aload_n hx hb dX3_findLeast_74 rfl (lv_at hl 1 rfl) ?_
                  refine va_get (D := D) (ci := 3) (v := .int (nI L)) (C := RX3) (T := TX3) (N := 33) hx hb hts hinX3 hown hK hP 0 rfl rfl 29 (by decide) (hts (.fieldLink RX3 147 "TroubleCodesModel" "listed" "I") (mem_at 1 rfl)) (fun _ h9 => h9) rfl dX3_findLeast_75 ?_
                  refine lv_bipush (v := 10) hx hb dX3_findLeast_78 (by decide) ?_
                  refine lv_icmp_ge (tgt := 103) hx hb dX3_findLeast_80 (by decide) (fun c_41 => ?_) (fun c_41 => ?_)
                  · refine lv_iinc (v := nI (z + 1)) (lv' := [(2, .int (nI (z + 1))), (1, .int (nI (popG 16 z))), (0, .ref o)]) hx hb dX3_findLeast_103 hl (k := 2) rfl (nI_1 _) (by decide) rfl (fun ls hl => ?_)
                    refine lv_goto (tgt := 9) hx hb dX3_findLeast_106 (by decide) ?_
                    have fhs_42_0 := c_4
                    have fhs_42_1 := (show ¬ L = 0 from fun h => c_7 (by rw [h]; rfl))
                    have fhs_42_2 := (show ¬ few < popG 16 z from fun h => c_28 ((nI_ltI (by omega) (by omega)).mpr h))
                    have fhs_42_3 := (show ¬ L = 0 from fun h => c_31 (by rw [h]; decide))
                    have fhs_42_4 := (show few ≤ popG 16 z from (nI_leI (by omega) (by omega)).mp c_39)
                    have fhs_42_5 := (show 10 ≤ L from (nI_leI (a := 10) (by decide) (by omega)).mp c_41)
                    have hs_42 : flF (exE g n mm) (g 30) (z + 1) = (L, (popG 16 z), li) := by
                      have hE : exE g n mm z = true := c_4
                      rw [flF, hs]; simp only [hE]
                      first
                        | (simp [fhs_42_1, fhs_42_2, fhs_42_3, fhs_42_4, fhs_42_5]; done)
                        | (repeat' split) <;> first | rfl | (exfalso; simp at *; omega) | omega
                    have q_43 : va_up (va_up g 29 (fun _ => nI (flF (exE g n mm) (g 30) (z + 1)).1)) 30 ((flF (exE g n mm) (g 30) (z + 1)).2.2) = va_up (va_up g 29 (fun _ => nI L)) 30 li := by rw [hs_42]
                    exact ih (z + 1) (by omega) (by omega) H locs ls (by rw [q_43]; exact hP) (by rw [q_43]; exact hD) hS (by rw [hs_42]; exact lv_sub hl [2, 1, 0] rfl)
                  · have hL9 : ¬ 10 ≤ L := fun h => c_41 ((nI_leI (a := 10) (by decide) (by omega)).mpr h)
                    refine lv_aload_n hx hb dX3_findLeast_83 rfl (lv_at hl 1 rfl) ?_
                    refine va_get (D := D) (ci := 3) (v := .ref (q 30)) (C := RX3) (T := TX3) (N := 33) hx hb hts hinX3 hown hK hP 0 rfl rfl 30 (by decide) (hts (.fieldLink RX3 84 "TroubleCodesModel" "list" "[I") (mem_at 3 rfl)) (fun _ h9 => h9) rfl dX3_findLeast_84 ?_
                    refine lv_aload_n hx hb dX3_findLeast_87 rfl (lv_at hl 1 rfl) ?_
                    refine va_get (D := D) (ci := 3) (v := .int (nI L)) (C := RX3) (T := TX3) (N := 33) hx hb hts hinX3 hown hK hP 0 rfl rfl 29 (by decide) (hts (.fieldLink RX3 147 "TroubleCodesModel" "listed" "I") (mem_at 1 rfl)) (fun _ h9 => h9) rfl dX3_findLeast_88 ?_
                    refine lv_iload_n hx hb dX3_findLeast_91 rfl (lv_at hl 2 rfl) ?_
                    refine x_iast (k := L) (f := li) (x := nI z) hx hb hK hP hD hS 24 rfl (by omega) (by decide) dX3_findLeast_92 (fun H locs hP hD hS => ?_)
                    have hP : va_P D vwCl (mW cI cZ q o (va_up (va_up g 29 (fun _ => nI L)) 30 (upd li L (nI z)))) H := hP
                    have hD : va_D A (mW cI cZ q o (va_up (va_up g 29 (fun _ => nI L)) 30 (upd li L (nI z)))) := hD
                    refine lv_aload_n hx hb dX3_findLeast_93 rfl (lv_at hl 1 rfl) ?_
                    refine lv_dup hx hb dX3_findLeast_94 rfl ?_
                    refine va_get (D := D) (ci := 3) (v := .int (nI L)) (C := RX3) (T := TX3) (N := 33) hx hb hts hinX3 hown hK hP 0 rfl rfl 29 (by decide) (hts (.fieldLink RX3 147 "TroubleCodesModel" "listed" "I") (mem_at 1 rfl)) (fun _ h9 => h9) rfl dX3_findLeast_95 ?_
                    refine lv_iconst (v := 1) hx hb dX3_findLeast_98 (by decide) ?_
                    refine lv_iadd hx hb dX3_findLeast_99 ?_
                    rw [nI_1]
                    refine va_put (D := D) (ci := 3) (v := .int (nI (L + 1))) (ty := .int) (C := RX3) (T := TX3) (N := 33) hx hb hts hinX3 tyX3 tyX3_ok nmX3 hown hK hP hD hS 0 rfl rfl 29 (by decide) (hts (.fieldLink RX3 147 "TroubleCodesModel" "listed" "I") (mem_at 1 rfl)) (fun _ h9 => h9) rfl (by decide +kernel) rfl rfl (Nat.le_of_ble_eq_true rfl) dX3_findLeast_100 (fun H locs hP hD hS => ?_)
                    have hP : va_P D vwCl (mW cI cZ q o (va_up (va_up g 29 (fun _ => nI (L + 1))) 30 (upd li L (nI z)))) H := hP
                    have hD : va_D A (mW cI cZ q o (va_up (va_up g 29 (fun _ => nI (L + 1))) 30 (upd li L (nI z)))) := hD
                    refine lv_iinc (v := nI (z + 1)) (lv' := [(2, .int (nI (z + 1))), (1, .int (nI (popG 16 z))), (0, .ref o)]) hx hb dX3_findLeast_103 hl (k := 2) rfl (nI_1 _) (by decide) rfl (fun ls hl => ?_)
                    refine lv_goto (tgt := 9) hx hb dX3_findLeast_106 (by decide) ?_
                    have fhs_44_0 := c_4
                    have fhs_44_1 := (show ¬ L = 0 from fun h => c_7 (by rw [h]; rfl))
                    have fhs_44_2 := (show ¬ few < popG 16 z from fun h => c_28 ((nI_ltI (by omega) (by omega)).mpr h))
                    have fhs_44_3 := (show ¬ L = 0 from fun h => c_31 (by rw [h]; decide))
                    have fhs_44_4 := (show few ≤ popG 16 z from (nI_leI (by omega) (by omega)).mp c_39)
                    have fhs_44_5 := (show ¬ 10 ≤ L from fun h => c_41 ((nI_leI (a := 10) (by decide) (by omega)).mpr h))
                    have hs_44 : flF (exE g n mm) (g 30) (z + 1) = ((L + 1), (popG 16 z), upd li L (nI z)) := by
                      have hE : exE g n mm z = true := c_4
                      rw [flF, hs]; simp only [hE]
                      first
                        | (simp [fhs_44_1, fhs_44_2, fhs_44_3, fhs_44_4, fhs_44_5]; done)
                        | (repeat' split) <;> first | rfl | (exfalso; simp at *; omega) | omega
                    have q_45 : va_up (va_up g 29 (fun _ => nI (flF (exE g n mm) (g 30) (z + 1)).1)) 30 ((flF (exE g n mm) (g 30) (z + 1)).2.2) = va_up (va_up g 29 (fun _ => nI (L + 1))) 30 (upd li L (nI z)) := by rw [hs_44]
                    exact ih (z + 1) (by omega) (by omega) H locs ls (by rw [q_45]; exact hP) (by rw [q_45]; exact hD) hS (by rw [hs_44]; exact lv_sub hl [2, 1, 0] rfl)
                · refine lv_iconst (v := 0) hx hb dX3_findLeast_58 (by decide) ?_
                  refine lv_goto (tgt := 66) hx hb dX3_findLeast_59 (by decide) ?_
                  refine W.eq (g2 := F0 m 66 ls [.int (nI 0), .ref o]) rfl ?_
                  refine va_put (D := D) (ci := 3) (v := .int (nI 0)) (ty := .int) (C := RX3) (T := TX3) (N := 33) hx hb hts hinX3 tyX3 tyX3_ok nmX3 hown hK hP hD hS 0 rfl rfl 29 (by decide) (hts (.fieldLink RX3 147 "TroubleCodesModel" "listed" "I") (mem_at 1 rfl)) (fun _ h9 => h9) rfl (by decide +kernel) rfl rfl (Nat.le_of_ble_eq_true rfl) dX3_findLeast_66 (fun H locs hP hD hS => ?_)
                  have hP : va_P D vwCl (mW cI cZ q o (va_up (va_up g 29 (fun _ => nI 0)) 30 li)) H := hP
                  have hD : va_D A (mW cI cZ q o (va_up (va_up g 29 (fun _ => nI 0)) 30 li)) := hD
                  refine lv_iload_n hx hb dX3_findLeast_69 rfl (lv_at hl 2 rfl) ?_
                  refine x_rdS (As := [.int (nI z)]) (rest := []) ⟨hx, hb, hml, hown, hts⟩ (tX3_many l D cI cZ cC z hz16) (va_cwS 1 hts gX3_findLeast_X3_many rfl rfl rfl (by decide +kernel) ⟨Nat.le_of_ble_eq_true rfl, Nat.le_of_ble_eq_true rfl⟩) hK trivial rfl hl.1 rfl (Nat.le_of_ble_eq_true rfl) dX3_findLeast_70 ⟨Nat.le_of_ble_eq_true rfl, Nat.le_of_ble_eq_true rfl⟩ (fun r_46 er_46 => ?_)
                  have er_46 : r_46 = nI (popG 16 z) := er_46
                  subst er_46
                  refine lv_istore_n (lv' := [(1, .int (nI (popG 16 z))), (0, .ref o), (2, .int (nI z))]) hx hb dX3_findLeast_73 rfl hl (by decide) rfl (fun ls hl => ?_)
                  refine lv_aload_n hx hb dX3_findLeast_74 rfl (lv_at hl 1 rfl) ?_
                  refine va_get (D := D) (ci := 3) (v := .int (nI 0)) (C := RX3) (T := TX3) (N := 33) hx hb hts hinX3 hown hK hP 0 rfl rfl 29 (by decide) (hts (.fieldLink RX3 147 "TroubleCodesModel" "listed" "I") (mem_at 1 rfl)) (fun _ h9 => h9) rfl dX3_findLeast_75 ?_
                  refine lv_bipush (v := 10) hx hb dX3_findLeast_78 (by decide) ?_
                  refine lv_icmp_ge (tgt := 103) hx hb dX3_findLeast_80 (by decide) (fun c_47 => ?_) (fun c_47 => ?_)
                  · exact absurd c_47 (by decide)
                  · refine lv_aload_n hx hb dX3_findLeast_83 rfl (lv_at hl 1 rfl) ?_
                    refine va_get (D := D) (ci := 3) (v := .ref (q 30)) (C := RX3) (T := TX3) (N := 33) hx hb hts hinX3 hown hK hP 0 rfl rfl 30 (by decide) (hts (.fieldLink RX3 84 "TroubleCodesModel" "list" "[I") (mem_at 3 rfl)) (fun _ h9 => h9) rfl dX3_findLeast_84 ?_
                    refine lv_aload_n hx hb dX3_findLeast_87 rfl (lv_at hl 1 rfl) ?_
                    refine va_get (D := D) (ci := 3) (v := .int (nI 0)) (C := RX3) (T := TX3) (N := 33) hx hb hts hinX3 hown hK hP 0 rfl rfl 29 (by decide) (hts (.fieldLink RX3 147 "TroubleCodesModel" "listed" "I") (mem_at 1 rfl)) (fun _ h9 => h9) rfl dX3_findLeast_88 ?_
                    refine lv_iload_n hx hb dX3_findLeast_91 rfl (lv_at hl 2 rfl) ?_
                    refine x_iast (k := 0) (f := li) (x := nI z) hx hb hK hP hD hS 24 rfl (by decide) (by decide) dX3_findLeast_92 (fun H locs hP hD hS => ?_)
                    have hP : va_P D vwCl (mW cI cZ q o (va_up (va_up g 29 (fun _ => nI 0)) 30 (upd li 0 (nI z)))) H := hP
                    have hD : va_D A (mW cI cZ q o (va_up (va_up g 29 (fun _ => nI 0)) 30 (upd li 0 (nI z)))) := hD
                    refine lv_aload_n hx hb dX3_findLeast_93 rfl (lv_at hl 1 rfl) ?_
                    refine lv_dup hx hb dX3_findLeast_94 rfl ?_
                    refine va_get (D := D) (ci := 3) (v := .int (nI 0)) (C := RX3) (T := TX3) (N := 33) hx hb hts hinX3 hown hK hP 0 rfl rfl 29 (by decide) (hts (.fieldLink RX3 147 "TroubleCodesModel" "listed" "I") (mem_at 1 rfl)) (fun _ h9 => h9) rfl dX3_findLeast_95 ?_
                    refine lv_iconst (v := 1) hx hb dX3_findLeast_98 (by decide) ?_
                    refine lv_iadd hx hb dX3_findLeast_99 ?_
                    rw [nI_1]
                    refine va_put (D := D) (ci := 3) (v := .int (nI (0 + 1))) (ty := .int) (C := RX3) (T := TX3) (N := 33) hx hb hts hinX3 tyX3 tyX3_ok nmX3 hown hK hP hD hS 0 rfl rfl 29 (by decide) (hts (.fieldLink RX3 147 "TroubleCodesModel" "listed" "I") (mem_at 1 rfl)) (fun _ h9 => h9) rfl (by decide +kernel) rfl rfl (Nat.le_of_ble_eq_true rfl) dX3_findLeast_100 (fun H locs hP hD hS => ?_)
                    have hP : va_P D vwCl (mW cI cZ q o (va_up (va_up g 29 (fun _ => nI (0 + 1))) 30 (upd li 0 (nI z)))) H := hP
                    have hD : va_D A (mW cI cZ q o (va_up (va_up g 29 (fun _ => nI (0 + 1))) 30 (upd li 0 (nI z)))) := hD
                    refine lv_iinc (v := nI (z + 1)) (lv' := [(2, .int (nI (z + 1))), (1, .int (nI (popG 16 z))), (0, .ref o)]) hx hb dX3_findLeast_103 hl (k := 2) rfl (nI_1 _) (by decide) rfl (fun ls hl => ?_)
                    refine lv_goto (tgt := 9) hx hb dX3_findLeast_106 (by decide) ?_
                    have fhs_48_0 := c_4
                    have fhs_48_1 := (show ¬ L = 0 from fun h => c_7 (by rw [h]; rfl))
                    have fhs_48_2 := (show ¬ few < popG 16 z from fun h => c_28 ((nI_ltI (by omega) (by omega)).mpr h))
                    have fhs_48_3 := (show ¬ L = 0 from fun h => c_31 (by rw [h]; decide))
                    have fhs_48_4 := (show ¬ few ≤ popG 16 z from fun h => c_39 ((nI_leI (by omega) (by omega)).mpr h))
                    have hs_48 : flF (exE g n mm) (g 30) (z + 1) = ((0 + 1), (popG 16 z), upd li 0 (nI z)) := by
                      have hE : exE g n mm z = true := c_4
                      rw [flF, hs]; simp only [hE]
                      first
                        | (simp [fhs_48_1, fhs_48_2, fhs_48_3, fhs_48_4]; done)
                        | (repeat' split) <;> first | rfl | (exfalso; simp at *; omega) | omega
                    have q_49 : va_up (va_up g 29 (fun _ => nI (flF (exE g n mm) (g 30) (z + 1)).1)) 30 ((flF (exE g n mm) (g 30) (z + 1)).2.2) = va_up (va_up g 29 (fun _ => nI (0 + 1))) 30 (upd li 0 (nI z)) := by rw [hs_48]
                    exact ih (z + 1) (by omega) (by omega) H locs ls (by rw [q_49]; exact hP) (by rw [q_49]; exact hD) hS (by rw [hs_48]; exact lv_sub hl [2, 1, 0] rfl)
  have q_50 : (nI (flF (exE g n mm) (g 30) 0).2.1 : Int32) = 0 := by rfl
  have q_51 : (nI 0 : Int32) = 0 := by rfl
  exact LOOP_1 (2 ^ mm - 0 + 1) 0 (Nat.zero_le _) (Nat.lt_succ_self _) _ _ ls (by skip; exact hP) (by skip; exact hD) hS (by rw [q_50, q_51]; exact lv_sub hl [2, 1, 0] rfl)

def lsF (g : Nat → Nat → Int32) (n mm : Nat) : Nat × Nat × (Nat → Int32) := flF (exE g n mm) (g 30) (2 ^ mm)

def fX3_least (g : Nat → Nat → Int32) (n mm : Nat) : Int32 × (Nat → Nat → Int32) := (nI (flF (exE g n mm) (g 30) (2 ^ mm)).1, va_up (va_up g 29 (fun _ => nI (flF (exE g n mm) (g 30) (2 ^ mm)).1)) 30 ((flF (exE g n mm) (g 30) (2 ^ mm)).2.2))
set_option maxHeartbeats 4000000 in
set_option maxRecDepth 100000 in
theorem tX3_least (l : Launch) (D : va_G) (cI cZ cC : ClassId) (q : Nat → Nat) (o : Nat) (g : Nat → Nat → Int32) (n : Nat) (hn : g 0 0 = nI n) (hnb : n ≤ 16) (mm : Nat) (hm : g 26 0 = nI mm) (hmb : mm ≤ 10) : WrI l yX3_least wsX3_least (rmK 2) D cI cZ cC [.ref o] (mW cI cZ q o g) (mW cI cZ q o ((fX3_least g n mm).2)) (fun ans => ans = (fX3_least g n mm).1) := by
  refine WrI.of (cc := cX3_least) (maxL := 1) (ret := .int) (by decide) rfl (Nat.le_of_ble_eq_true rfl) ?_
  intro p e s m args below meth c Q A ls hx hb hml hts hown hK hP hD hS hA hret hl
  have hl : lv_has ls 1 [(0, .ref o)] := hl
  have hinX3 : ∀ w ∈ u_ws RX3 TX3 33, w ∈ wsX3_least := (fun w h => List.mem_cons_of_mem _ (List.mem_append_right _ h))
  refine lv_aload_n hx hb dX3_least_0 rfl (lv_at hl 0 rfl) ?_
  refine x_wvW (As := []) (rest := []) ⟨hx, hb, hml, hown, hts⟩ (tX3_findLeast l D cI cZ cC q o g n hn hnb mm hm hmb) (cwV 0 hts gX3_least_X3_findLeast rfl rfl rfl (by decide +kernel) ⟨Nat.le_of_ble_eq_true rfl, Nat.le_of_ble_eq_true rfl⟩) hK (x_recv (ci := 3) hK hP rfl (q0 := 0) rfl) hP hD hS hA rfl hl.1 rfl (Nat.le_of_ble_eq_true rfl) dX3_least_1 ⟨Nat.le_of_ble_eq_true rfl, Nat.le_of_ble_eq_true rfl⟩ (fun H locs hP hD hS => ?_)
  refine lv_aload_n hx hb dX3_least_4 rfl (lv_at hl 0 rfl) ?_
  refine va_get (D := D) (ci := 3) (v := .int (nI (flF (exE g n mm) (g 30) (2 ^ mm)).1)) (C := RX3) (T := TX3) (N := 33) hx hb hts hinX3 hown hK hP 0 rfl rfl 29 (by decide) (hts (.fieldLink RX3 147 "TroubleCodesModel" "listed" "I") (mem_at 1 rfl)) (fun _ h9 => h9) rfl dX3_least_5 ?_
  have es : fX3_least g n mm = (nI (flF (exE g n mm) (g 30) (2 ^ mm)).1, va_up (va_up g 29 (fun _ => nI (flF (exE g n mm) (g 30) (2 ^ mm)).1)) 30 ((flF (exE g n mm) (g 30) (2 ^ mm)).2.2)) := by rw [fX3_least]
  exact hret 8 _ _ _ _ (by rw [es]) (by rw [es]; exact hP) (by rw [es]; exact hD) hS rfl dX3_least_8

def fX3_leastAt (g : Nat → Nat → Int32) (n mm : Nat) (x : Int32) : Int32 × (Nat → Nat → Int32) := if 0 ≤ x ∧ x ≤ ((nI (flF (exE g n mm) (g 30) (2 ^ mm)).1) - 1) then (((flF (exE g n mm) (g 30) (2 ^ mm)).2.2) (ix x), va_up (va_up g 29 (fun _ => nI (flF (exE g n mm) (g 30) (2 ^ mm)).1)) 30 ((flF (exE g n mm) (g 30) (2 ^ mm)).2.2)) else ((-1), va_up (va_up g 29 (fun _ => nI (flF (exE g n mm) (g 30) (2 ^ mm)).1)) 30 ((flF (exE g n mm) (g 30) (2 ^ mm)).2.2))
set_option maxHeartbeats 4000000 in
set_option maxRecDepth 100000 in
theorem tX3_leastAt (l : Launch) (D : va_G) (cI cZ cC : ClassId) (q : Nat → Nat) (o : Nat) (g : Nat → Nat → Int32) (n : Nat) (hn : g 0 0 = nI n) (hnb : n ≤ 16) (mm : Nat) (hm : g 26 0 = nI mm) (hmb : mm ≤ 10) (x : Int32) : WrI l yX3_leastAt wsX3_leastAt (rmK 2) D cI cZ cC [.ref o, .int x] (mW cI cZ q o g) (mW cI cZ q o ((fX3_leastAt g n mm x).2)) (fun ans => ans = (fX3_leastAt g n mm x).1) := by
  refine WrI.of (cc := cX3_leastAt) (maxL := 2) (ret := .int) (by decide) rfl (Nat.le_of_ble_eq_true rfl) ?_
  intro p e s m args below meth c Q A ls hx hb hml hts hown hK hP hD hS hA hret hl
  have hl : lv_has ls 2 [(0, .ref o), (1, .int x)] := hl
  have hinX3 : ∀ w ∈ u_ws RX3 TX3 33, w ∈ wsX3_leastAt := (fun w h => List.mem_cons_of_mem _ (List.mem_append_right _ h))
  refine lv_aload_n hx hb dX3_leastAt_0 rfl (lv_at hl 0 rfl) ?_
  refine x_wvW (As := []) (rest := []) ⟨hx, hb, hml, hown, hts⟩ (tX3_findLeast l D cI cZ cC q o g n hn hnb mm hm hmb) (cwV 0 hts gX3_leastAt_X3_findLeast rfl rfl rfl (by decide +kernel) ⟨Nat.le_of_ble_eq_true rfl, Nat.le_of_ble_eq_true rfl⟩) hK (x_recv (ci := 3) hK hP rfl (q0 := 0) rfl) hP hD hS hA rfl hl.1 rfl (Nat.le_of_ble_eq_true rfl) dX3_leastAt_1 ⟨Nat.le_of_ble_eq_true rfl, Nat.le_of_ble_eq_true rfl⟩ (fun H locs hP hD hS => ?_)
  refine lv_iload_n hx hb dX3_leastAt_4 rfl (lv_at hl 1 rfl) ?_
  refine lv_iconst (v := 0) hx hb dX3_leastAt_5 (by decide) ?_
  refine lv_aload_n hx hb dX3_leastAt_6 rfl (lv_at hl 0 rfl) ?_
  refine va_get (D := D) (ci := 3) (v := .int (nI (flF (exE g n mm) (g 30) (2 ^ mm)).1)) (C := RX3) (T := TX3) (N := 33) hx hb hts hinX3 hown hK hP 0 rfl rfl 29 (by decide) (hts (.fieldLink RX3 147 "TroubleCodesModel" "listed" "I") (mem_at 1 rfl)) (fun _ h9 => h9) rfl dX3_leastAt_7 ?_
  refine lv_iconst (v := 1) hx hb dX3_leastAt_10 (by decide) ?_
  refine lv_isub hx hb dX3_leastAt_11 ?_
  refine x_rdS (As := [.int x, .int 0, .int ((nI (flF (exE g n mm) (g 30) (2 ^ mm)).1) - 1)]) (rest := []) ⟨hx, hb, hml, hown, hts⟩ (tX3_in l D cI cZ cC x 0 ((nI (flF (exE g n mm) (g 30) (2 ^ mm)).1) - 1)) (va_cwS 3 hts gX3_leastAt_X3_in rfl rfl rfl (by decide +kernel) ⟨Nat.le_of_ble_eq_true rfl, Nat.le_of_ble_eq_true rfl⟩) hK trivial rfl hl.1 rfl (Nat.le_of_ble_eq_true rfl) dX3_leastAt_12 ⟨Nat.le_of_ble_eq_true rfl, Nat.le_of_ble_eq_true rfl⟩ (fun r_1 er_1 => ?_)
  have er_1 : r_1 = bI (0 ≤ x ∧ x ≤ ((nI (flF (exE g n mm) (g 30) (2 ^ mm)).1) - 1)) := er_1
  subst er_1
  refine lv_if_eq (tgt := 27) hx hb dX3_leastAt_15 (by decide) (fun c_2 => ?_) (fun c_2 => ?_)
  · have c_2 := bI_eq c_2
    refine lv_iconst (v := (-1)) hx hb dX3_leastAt_27 (by decide) ?_
    have es : fX3_leastAt g n mm x = ((-1), va_up (va_up g 29 (fun _ => nI (flF (exE g n mm) (g 30) (2 ^ mm)).1)) 30 ((flF (exE g n mm) (g 30) (2 ^ mm)).2.2)) := by rw [fX3_leastAt]; rw [if_neg c_2]
    exact hret 28 _ _ _ _ (by rw [es]) (by rw [es]; exact hP) (by rw [es]; exact hD) hS rfl dX3_leastAt_28
  · have c_2 := bI_ne c_2
    have hLb := flF_b (exE g n mm) (g 30) (2 ^ mm)
    obtain ⟨j, hj, ej⟩ := ixck (n := (flF (exE g n mm) (g 30) (2 ^ mm)).1) rfl (by omega) c_2
    subst ej
    have xj : ix (nI j) = j := ix_nI (by omega)
    refine lv_aload_n hx hb dX3_leastAt_18 rfl (lv_at hl 0 rfl) ?_
    refine va_get (D := D) (ci := 3) (v := .ref (q 30)) (C := RX3) (T := TX3) (N := 33) hx hb hts hinX3 hown hK hP 0 rfl rfl 30 (by decide) (hts (.fieldLink RX3 84 "TroubleCodesModel" "list" "[I") (mem_at 2 rfl)) (fun _ h9 => h9) rfl dX3_leastAt_19 ?_
    refine lv_iload_n hx hb dX3_leastAt_22 rfl (lv_at hl 1 rfl) ?_
    refine x_iald (k := j) (f := (flF (exE g n mm) (g 30) (2 ^ mm)).2.2) hx hb hK hP 24 rfl (by omega) (by decide) dX3_leastAt_23 ?_
    refine lv_goto (tgt := 28) hx hb dX3_leastAt_24 (by decide) ?_
    have es : fX3_leastAt g n mm (nI j) = (((flF (exE g n mm) (g 30) (2 ^ mm)).2.2) j, va_up (va_up g 29 (fun _ => nI (flF (exE g n mm) (g 30) (2 ^ mm)).1)) 30 ((flF (exE g n mm) (g 30) (2 ^ mm)).2.2)) := by rw [fX3_leastAt]; simp only [xj]; rw [if_pos c_2]
    exact hret 28 _ _ _ _ (by rw [es]) (by rw [es]; exact hP) (by rw [es]; exact hD) hS rfl dX3_leastAt_28
