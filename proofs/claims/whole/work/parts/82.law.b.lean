theorem lw_cmp {p : Program} {l : Launch} {e : Env} {R : Room} {s : State} {m : MethodId} {args : Array Value} {below : List Frame} {meth : Method} {c : Code} {H : Heap} {locs : List Loc} {cells slots : Nat} {Q : State → Prop} {cc : ByteArray} {pc : Nat} {ls : Array Slot} {rest : List Value} {x y : Int64} (hx : p.tables.exec = Jvm.exec) (hb : c.code = cc) (hdg : decode cc pc = .ok (.lcmp, 1)) (h : x = y)
    (k : W p l e R s m args below meth c H locs cells slots Q (F0 m (pc + 1) ls (.int 0 :: rest))) : W p l e R s m args below meth c H locs cells slots Q (F0 m pc ls (.long y :: .long x :: rest)) := by
  subst h
  refine W.lcmp hx hb hdg ?_
  rw [show lg_cmp x x = 0 by simp [lg_cmp]]
  exact k

theorem law_in {i L : Nat} (c : ¬ nI L - 8 < nI i) (hL : L ≤ 4096) (hi : i ≤ L + 8) : i + 8 ≤ L := by
  have h := Int32.not_lt.mp c
  rw [Int32.le_iff_toInt_le, show (8 : Int32) = nI 8 from rfl, pk_sub_toInt (by omega) (by decide), nI_toInt (by omega)] at h
  omega

set_option maxHeartbeats 8000000 in
set_option maxRecDepth 100000 in
theorem law_loop {p : Program} {e : Env} {s : State} {m : MethodId} {below : List Frame} {meth : Method} {c : Code} (l : Launch) {b L : Nat} {xs : Nat → Int32} (hL : L ≤ 4096) (C0 : lw_At p s m meth c b L xs) (D : va_G) (cI cZ cC : ClassId) (hK : va_K D vwCl (tyA cI cZ cC) s) (hN : va_Nw (.methodLinkNest RX0 72 yX2_asNumber RX2) s) (q : Nat → Nat) (o xa : Nat) : ∀ (fu i n mm : Nat) (ad : Nat → Nat) (t v C FF FO g : Nat → Nat → Int32), L + 8 - i < fu → i ≤ L + 8 → ad 0 = xa → Rel i n mm t v C FF FO g → ∀ (H : Heap) (locs : List Loc) (ls : Array Slot), va_P D vwCl (cW cI cC ad n t v C FF FO ++ mW cI cZ q o g) H → va_D (fun q : Nat => s.heap.size ≤ q) (cW cI cC ad n t v C FF FO ++ mW cI cZ q o g) → va_S (fun q : Nat => s.heap.size ≤ q) s.heap H locs → lv_has ls 4 [(0, .ref b), (1, .ref xa), (2, .ref o), (3, .int (nI i))] → W p l e room_1 s m #[Value.ref b] below meth c H locs (60 + 3 * i) (9000 + 38 * i) (lw_Z below #[Value.ref b] s) (F0 m 18 ls []) := by
  obtain ⟨hx, hb, hr, hml, hown, hts0, hX, hbl, hlocks, hgv⟩ := id C0
  have hts : ∀ w ∈ wsL_law, w.before #[Value.ref b] s = true := fun w h => hts0 w (wsL_law_in w h)
  have hA : ∀ q : Nat, s.heap.size ≤ q → (fun q : Nat => s.heap.size ≤ q) q := fun _ h => h
  have hbA : ¬ (fun q : Nat => s.heap.size ≤ q) b := Nat.not_le.mpr hbl
  intro fu
  induction fu with
  | zero => intro i n mm ad t v C FF FO g h; exact absurd h (Nat.not_lt_zero _)
  | succ fu ih =>
    intro i n mm ad t v C FF FO g hfu hiL hxa hR H locs ls hP hD hS hl
    subst hxa
    obtain ⟨hnb, hn, hgn, -⟩ := id hR.1
    obtain ⟨hmb, hm, hgm, -, -, -, -, hv5, -⟩ := id hR.2.2.2.2.2
    have hcfo := hR.cfo
    have hgfo := hR.gfo
    refine lv_iload_n hx hb dL_law_18 rfl (lv_at hl 3 rfl) ?_
    refine lv_aload_n hx hb dL_law_19 rfl (lv_at hl 0 rfl) ?_
    refine va_slen hx hb hX hbl hbA hS dL_law_20 ?_
    refine lv_bipush (v := 8) hx hb dL_law_21 (by decide) ?_
    refine lv_isub hx hb dL_law_23 ?_
    refine lv_icmp_gt (tgt := 698) hx hb dL_law_24 (by decide) (fun c_1 => ?_) (fun c_1 => ?_)
    · refine lv_iconst (v := 1) hx hb dL_law_698 (by decide) ?_
      refine W.widen (k := 600000) (n := 7302250) (by omega) (by omega) ?_
      refine va_forget (fun q h => hS.2.2 q h) ?_
      exact lw_ret hx hb hr hlocks dL_law_699
    · have hi8 : i + 8 ≤ L := law_in c_1 hL hiL
      have hi_0 : vp_in (nI i) L := vp_in_nI (by omega) (by omega)
      obtain ⟨a0, ha0⟩ : ∃ a, a = xs (nI i).toNatClampNeg := ⟨_, rfl⟩
      have hi_1 : vp_in ((nI i) + 1) L := law_ix rfl (show (1 : Int32) = nI 1 from rfl) (by omega) hL
      obtain ⟨a1, ha1⟩ : ∃ a, a = xs ((nI i) + 1).toNatClampNeg := ⟨_, rfl⟩
      have hi_2 : vp_in ((nI i) + 2) L := law_ix rfl (show (2 : Int32) = nI 2 from rfl) (by omega) hL
      obtain ⟨a2, ha2⟩ : ∃ a, a = xs ((nI i) + 2).toNatClampNeg := ⟨_, rfl⟩
      have hi_3 : vp_in ((nI i) + 3) L := law_ix rfl (show (3 : Int32) = nI 3 from rfl) (by omega) hL
      obtain ⟨a3, ha3⟩ : ∃ a, a = xs ((nI i) + 3).toNatClampNeg := ⟨_, rfl⟩
      have hi_4 : vp_in ((nI i) + 4) L := law_ix rfl (show (4 : Int32) = nI 4 from rfl) (by omega) hL
      obtain ⟨a4, ha4⟩ : ∃ a, a = xs ((nI i) + 4).toNatClampNeg := ⟨_, rfl⟩
      have hi_5 : vp_in ((nI i) + 5) L := law_ix rfl (show (5 : Int32) = nI 5 from rfl) (by omega) hL
      obtain ⟨a5, ha5⟩ : ∃ a, a = xs ((nI i) + 5).toNatClampNeg := ⟨_, rfl⟩
      have hi_6 : vp_in ((nI i) + 6) L := law_ix rfl (show (6 : Int32) = nI 6 from rfl) (by omega) hL
      obtain ⟨a6, ha6⟩ : ∃ a, a = xs ((nI i) + 6).toNatClampNeg := ⟨_, rfl⟩
      have hi_7 : vp_in ((nI i) + 7) L := law_ix rfl (show (7 : Int32) = nI 7 from rfl) (by omega) hL
      obtain ⟨a7, ha7⟩ : ∃ a, a = xs ((nI i) + 7).toNatClampNeg := ⟨_, rfl⟩
      refine lv_aload_n hx hb dL_law_27 rfl (lv_at hl 0 rfl) ?_
      refine lv_iload_n hx hb dL_law_28 rfl (lv_at hl 3 rfl) ?_
      refine va_sld hx hb hX hbl hbA hS hi_0 dL_law_29 ?_
      rw [← ha0]
      refine lv_bipush (v := 31) hx hb dL_law_30 (by decide) ?_
      refine lv_iand hx hb dL_law_32 ?_
      by_cases c_2 : (a0 &&& 31).toInt < 0 ∨ 20 < (a0 &&& 31).toInt
      · refine lv_tableOut (tgt := 692) hx hb dL_law_33 c_2 (by decide) ?_
        refine lv_iinc (v := nI (i + 8)) (lv' := [(3, .int (nI (i + 8))), (0, .ref b), (1, .ref (ad 0)), (2, .ref o)]) hx hb dL_law_692 hl (k := 3) rfl (nI_add i 8) (by decide) rfl (fun ls hl => ?_)
        refine lv_goto (tgt := 18) hx hb dL_law_695 (by decide) ?_
        refine W.widen (k := 60 + 3 * (i + 8)) (n := 9000 + 38 * (i + 8)) (by omega) (by omega) ?_
        exact ih (i + 8) n mm ad t v C FF FO g (by omega) (by omega) rfl (Rel.mono hR (by omega)) H locs ls hP hD hS (lv_sub hl [1, 2, 3, 0] rfl)
      · have c_2 := tb_in20 (x := a0 &&& 31) c_2
        rcases c_2 with c_2 | c_2 | c_2 | c_2 | c_2 | c_2 | c_2 | c_2 | c_2 | c_2 | c_2 | c_2 | c_2 | c_2 | c_2 | c_2 | c_2 | c_2 | c_2 | c_2 | c_2
        · refine lv_tableIn (off := 99) (tgt := 132) hx hb dL_law_33 (by rw [c_2]; decide) (by rw [c_2]; decide) (by rw [c_2]; rfl) (by decide) ?_
          refine lv_aload_n hx hb dL_law_132 rfl (lv_at hl 1 rfl) ?_
          refine lv_aload_n hx hb dL_law_133 rfl (lv_at hl 0 rfl) ?_
          refine lv_iload_n hx hb dL_law_134 rfl (lv_at hl 3 rfl) ?_
          refine lv_iconst (v := 1) hx hb dL_law_135 (by decide) ?_
          refine lv_iadd hx hb dL_law_136 ?_
          refine va_sld hx hb hX hbl hbA hS hi_1 dL_law_137 ?_
          rw [← ha1]
          refine lv_aload_n hx hb dL_law_138 rfl (lv_at hl 0 rfl) ?_
          refine lv_iload_n hx hb dL_law_139 rfl (lv_at hl 3 rfl) ?_
          refine lv_iconst (v := 2) hx hb dL_law_140 (by decide) ?_
          refine lv_iadd hx hb dL_law_141 ?_
          refine va_sld hx hb hX hbl hbA hS hi_2 dL_law_142 ?_
          rw [← ha2]
          refine lv_aload_n hx hb dL_law_143 rfl (lv_at hl 0 rfl) ?_
          refine lv_iload_n hx hb dL_law_144 rfl (lv_at hl 3 rfl) ?_
          refine lv_iconst (v := 3) hx hb dL_law_145 (by decide) ?_
          refine lv_iadd hx hb dL_law_146 ?_
          refine va_sld hx hb hX hbl hbA hS hi_3 dL_law_147 ?_
          rw [← ha3]
          refine lv_aload_n hx hb dL_law_148 rfl (lv_at hl 0 rfl) ?_
          refine lv_iload_n hx hb dL_law_149 rfl (lv_at hl 3 rfl) ?_
          refine lv_iconst (v := 4) hx hb dL_law_150 (by decide) ?_
          refine lv_iadd hx hb dL_law_151 ?_
          refine va_sld hx hb hX hbl hbA hS hi_4 dL_law_152 ?_
          rw [← ha4]
          refine lv_aload_n hx hb dL_law_153 rfl (lv_at hl 0 rfl) ?_
          refine lv_iload_n hx hb dL_law_154 rfl (lv_at hl 3 rfl) ?_
          refine lv_iconst (v := 5) hx hb dL_law_155 (by decide) ?_
          refine lv_iadd hx hb dL_law_156 ?_
          refine va_sld hx hb hX hbl hbA hS hi_5 dL_law_157 ?_
          rw [← ha5]
          refine lv_aload_n hx hb dL_law_158 rfl (lv_at hl 0 rfl) ?_
          refine lv_iload_n hx hb dL_law_159 rfl (lv_at hl 3 rfl) ?_
          refine lv_bipush (v := 6) hx hb dL_law_160 (by decide) ?_
          refine lv_iadd hx hb dL_law_162 ?_
          refine va_sld hx hb hX hbl hbA hS hi_6 dL_law_163 ?_
          rw [← ha6]
          refine lv_aload_n hx hb dL_law_164 rfl (lv_at hl 0 rfl) ?_
          refine lv_iload_n hx hb dL_law_165 rfl (lv_at hl 3 rfl) ?_
          refine lv_bipush (v := 7) hx hb dL_law_166 (by decide) ?_
          refine lv_iadd hx hb dL_law_168 ?_
          refine va_sld hx hb hX hbl hbA hS hi_7 dL_law_169 ?_
          rw [← ha7]
          have J178_2 : W p l e room_1 s m #[Value.ref b] below meth c H locs (60 + 3 * i) (9000 + 38 * i) (lw_Z below #[Value.ref b] s) (F0 m 178 ls [.int (bI (¬ (a7 = 0))), .int a6, .int a5, .int a4, .int a3, .int a2, .int a1, .ref (ad 0)]) := by
            refine x_liL (w2 := mW cI cZ q o g) (As := [.int a1, .int a2, .int a3, .int a4, .int a5, .int a6, .int (bI (¬ (a7 = 0)))]) (rest := []) ⟨hx, hb, hml, hown, hts⟩ (tX2_check l D cI cZ cC ad n t v C FF FO hn hnb a1 a2 a3 a4 a5 a6 (bI (¬ (a7 = 0))) (bI_01 _)) (cwV 7 hts gL_law_X2_check rfl rfl rfl (by decide +kernel) ⟨Nat.le_of_ble_eq_true rfl, Nat.le_of_ble_eq_true rfl⟩) hK (va_recv (D := D) (ci := 2) hK (left_P hP) rfl (q0 := 0) rfl) hP hD hS hA rfl hl.1 rfl (Nat.le_of_ble_eq_true rfl) dL_law_178 ⟨show _ ≤ 600000 by omega, show _ ≤ 7302250 by omega⟩ (fun rx u H locs erx hP hD hS => ?_)
            obtain ⟨erx, hu0⟩ := erx
            refine lv_aload_n hx hb dL_law_181 rfl (lv_at hl 2 rfl) ?_
            refine lv_aload_n hx hb dL_law_182 rfl (lv_at hl 0 rfl) ?_
            refine lv_iload_n hx hb dL_law_183 rfl (lv_at hl 3 rfl) ?_
            refine lv_iconst (v := 1) hx hb dL_law_184 (by decide) ?_
            refine lv_iadd hx hb dL_law_185 ?_
            refine va_sld hx hb hX hbl hbA hS hi_1 dL_law_186 ?_
            rw [← ha1]
            refine lv_aload_n hx hb dL_law_187 rfl (lv_at hl 0 rfl) ?_
            refine lv_iload_n hx hb dL_law_188 rfl (lv_at hl 3 rfl) ?_
            refine lv_iconst (v := 2) hx hb dL_law_189 (by decide) ?_
            refine lv_iadd hx hb dL_law_190 ?_
            refine va_sld hx hb hX hbl hbA hS hi_2 dL_law_191 ?_
            rw [← ha2]
            refine lv_aload_n hx hb dL_law_192 rfl (lv_at hl 0 rfl) ?_
            refine lv_iload_n hx hb dL_law_193 rfl (lv_at hl 3 rfl) ?_
            refine lv_iconst (v := 3) hx hb dL_law_194 (by decide) ?_
            refine lv_iadd hx hb dL_law_195 ?_
            refine va_sld hx hb hX hbl hbA hS hi_3 dL_law_196 ?_
            rw [← ha3]
            refine lv_aload_n hx hb dL_law_197 rfl (lv_at hl 0 rfl) ?_
            refine lv_iload_n hx hb dL_law_198 rfl (lv_at hl 3 rfl) ?_
            refine lv_iconst (v := 4) hx hb dL_law_199 (by decide) ?_
            refine lv_iadd hx hb dL_law_200 ?_
            refine va_sld hx hb hX hbl hbA hS hi_4 dL_law_201 ?_
            rw [← ha4]
            refine lv_aload_n hx hb dL_law_202 rfl (lv_at hl 0 rfl) ?_
            refine lv_iload_n hx hb dL_law_203 rfl (lv_at hl 3 rfl) ?_
            refine lv_iconst (v := 5) hx hb dL_law_204 (by decide) ?_
            refine lv_iadd hx hb dL_law_205 ?_
            refine va_sld hx hb hX hbl hbA hS hi_5 dL_law_206 ?_
            rw [← ha5]
            refine lv_aload_n hx hb dL_law_207 rfl (lv_at hl 0 rfl) ?_
            refine lv_iload_n hx hb dL_law_208 rfl (lv_at hl 3 rfl) ?_
            refine lv_bipush (v := 6) hx hb dL_law_209 (by decide) ?_
            refine lv_iadd hx hb dL_law_211 ?_
            refine va_sld hx hb hX hbl hbA hS hi_6 dL_law_212 ?_
            rw [← ha6]
            refine lv_aload_n hx hb dL_law_213 rfl (lv_at hl 0 rfl) ?_
            refine lv_iload_n hx hb dL_law_214 rfl (lv_at hl 3 rfl) ?_
            refine lv_bipush (v := 7) hx hb dL_law_215 (by decide) ?_
            refine lv_iadd hx hb dL_law_217 ?_
            refine va_sld hx hb hX hbl hbA hS hi_7 dL_law_218 ?_
            rw [← ha7]
            have J227_3 : W p l e room_1 s m #[Value.ref b] below meth c H locs (60 + 3 * i + 3) (9000 + 38 * i + 38) (lw_Z below #[Value.ref b] s) (F0 m 227 ls [.int (bI (¬ (a7 = 0))), .int a6, .int a5, .int a4, .int a3, .int a2, .int a1, .ref o, .int rx]) := by
              refine x_lwR (As := [.int a1, .int a2, .int a3, .int a4, .int a5, .int a6, .int (bI (¬ (a7 = 0)))]) (rest := [.int rx]) ⟨hx, hb, hml, hown, hts⟩ (tX3_check l D cI cZ cC q o g n hgn hnb a1 a2 a3 a4 a5 a6 (bI (¬ (a7 = 0))) (bI_01 _)) (cwV 7 hts gL_law_X3_check rfl rfl rfl (by decide +kernel) ⟨Nat.le_of_ble_eq_true rfl, Nat.le_of_ble_eq_true rfl⟩) hK (va_recv (D := D) (ci := 3) hK (right_P hP) rfl (q0 := 0) rfl) hP hD hS hA rfl hl.1 rfl (Nat.le_of_ble_eq_true rfl) dL_law_227 ⟨show _ ≤ 600000 by omega, show _ ≤ 7302250 by omega⟩ (fun rm H locs erm hP hD hS => ?_)
              rcases sim_check hR a1 a2 a3 a4 a5 a6 (bI (¬ (a7 = 0))) with ⟨s1, s2⟩ | ⟨s1, s2, s3⟩
              · have eq1 : rx = rm := by rw [erx, erm]; rw [s2]
                refine lv_icmp_eq (tgt := 692) hx hb dL_law_230 (by decide) (fun _ => ?_) (fun hne => absurd eq1 hne)
                rw [if_pos s1] at hP hD
                rw [s2] at hP hD
                refine lv_iinc (v := nI (i + 8)) (lv' := [(3, .int (nI (i + 8))), (0, .ref b), (1, .ref (ad 0)), (2, .ref o)]) hx hb dL_law_692 hl (k := 3) rfl (nI_add i 8) (by decide) rfl (fun ls hl => ?_)
                refine lv_goto (tgt := 18) hx hb dL_law_695 (by decide) ?_
                refine W.widen (k := 60 + 3 * (i + 8)) (n := 9000 + 38 * (i + 8)) (by omega) (by omega) ?_
                exact ih (i + 8) n mm u t v C FF FO g (by omega) (by omega) hu0 (Rel.mono hR (by omega)) H locs ls hP hD hS (lv_sub hl [1, 2, 3, 0] rfl)
              · have eq1 : rx = rm := by rw [erx, erm]; exact s2.symm
                refine lv_icmp_eq (tgt := 692) hx hb dL_law_230 (by decide) (fun _ => ?_) (fun hne => absurd eq1 hne)
                rw [if_neg s1] at hP hD
                refine lv_iinc (v := nI (i + 8)) (lv' := [(3, .int (nI (i + 8))), (0, .ref b), (1, .ref (ad 0)), (2, .ref o)]) hx hb dL_law_692 hl (k := 3) rfl (nI_add i 8) (by decide) rfl (fun ls hl => ?_)
                refine lv_goto (tgt := 18) hx hb dL_law_695 (by decide) ?_
                refine W.widen (k := 60 + 3 * (i + 8)) (n := 9000 + 38 * (i + 8)) (by omega) (by omega) ?_
                exact ih (i + 8) (n + 1) mm u _ v _ _ _ _ (by omega) (by omega) hu0 (Rel.mono s3 (by omega)) H locs ls hP hD hS (lv_sub hl [1, 2, 3, 0] rfl)
            refine lv_if_eq (tgt := 226) hx hb dL_law_219 (by decide) (fun c_5 => ?_) (fun c_5 => ?_)
            · refine lv_iconst (v := 0) hx hb dL_law_226 (by decide) ?_
              rw [bI_f (fun h => h c_5)] at J227_3
              exact J227_3
            · refine lv_iconst (v := 1) hx hb dL_law_222 (by decide) ?_
              refine lv_goto (tgt := 227) hx hb dL_law_223 (by decide) ?_
              rw [bI_t c_5] at J227_3
              exact J227_3
          refine lv_if_eq (tgt := 177) hx hb dL_law_170 (by decide) (fun c_6 => ?_) (fun c_6 => ?_)
          · refine lv_iconst (v := 0) hx hb dL_law_177 (by decide) ?_
            rw [bI_f (fun h => h c_6)] at J178_2
            exact J178_2
          · refine lv_iconst (v := 1) hx hb dL_law_173 (by decide) ?_
            refine lv_goto (tgt := 178) hx hb dL_law_174 (by decide) ?_
            rw [bI_t c_6] at J178_2
            exact J178_2
        · refine lv_tableIn (off := 202) (tgt := 235) hx hb dL_law_33 (by rw [c_2]; decide) (by rw [c_2]; decide) (by rw [c_2]; rfl) (by decide) ?_
          refine lv_aload_n hx hb dL_law_235 rfl (lv_at hl 1 rfl) ?_
          refine x_lwL (w2 := mW cI cZ q o g) (As := []) (rest := []) ⟨hx, hb, hml, hown, hts⟩ (tX2_begin l D cI cZ cC ad n t v C FF FO hn hnb) (cwV 0 hts gL_law_X2_begin rfl rfl rfl (by decide +kernel) ⟨Nat.le_of_ble_eq_true rfl, Nat.le_of_ble_eq_true rfl⟩) hK (va_recv (D := D) (ci := 2) hK (left_P hP) rfl (q0 := 0) rfl) hP hD hS hA rfl hl.1 rfl (Nat.le_of_ble_eq_true rfl) dL_law_236 ⟨show _ ≤ 600000 by omega, show _ ≤ 7302250 by omega⟩ (fun rx H locs erx hP hD hS => ?_)
          refine lv_aload_n hx hb dL_law_239 rfl (lv_at hl 2 rfl) ?_
          refine x_lwR (As := []) (rest := [.int rx]) ⟨hx, hb, hml, hown, hts⟩ (tX3_begin l D cI cZ cC q o g n hgn hnb) (cwV 0 hts gL_law_X3_begin rfl rfl rfl (by decide +kernel) ⟨Nat.le_of_ble_eq_true rfl, Nat.le_of_ble_eq_true rfl⟩) hK (va_recv (D := D) (ci := 3) hK (right_P hP) rfl (q0 := 0) rfl) hP hD hS hA rfl hl.1 rfl (Nat.le_of_ble_eq_true rfl) dL_law_240 ⟨show _ ≤ 600000 by omega, show _ ≤ 7302250 by omega⟩ (fun rm H locs erm hP hD hS => ?_)
          have hsim := sim_begin hR 
          have eq1 : rx = rm := by rw [erx, erm]; exact hsim.1
          refine lv_icmp_eq (tgt := 692) hx hb dL_law_243 (by decide) (fun _ => ?_) (fun hne => absurd eq1 hne)
          refine lv_iinc (v := nI (i + 8)) (lv' := [(3, .int (nI (i + 8))), (0, .ref b), (1, .ref (ad 0)), (2, .ref o)]) hx hb dL_law_692 hl (k := 3) rfl (nI_add i 8) (by decide) rfl (fun ls hl => ?_)
          refine lv_goto (tgt := 18) hx hb dL_law_695 (by decide) ?_
          refine W.widen (k := 60 + 3 * (i + 8)) (n := 9000 + 38 * (i + 8)) (by omega) (by omega) ?_
          exact ih (i + 8) n mm ad _ _ _ _ _ _ (by omega) (by omega) rfl (Rel.mono hsim.2 (by omega)) H locs ls hP hD hS (lv_sub hl [1, 2, 3, 0] rfl)
        · refine lv_tableIn (off := 215) (tgt := 248) hx hb dL_law_33 (by rw [c_2]; decide) (by rw [c_2]; decide) (by rw [c_2]; rfl) (by decide) ?_
          refine lv_aload_n hx hb dL_law_248 rfl (lv_at hl 1 rfl) ?_
          refine lv_aload_n hx hb dL_law_249 rfl (lv_at hl 0 rfl) ?_
          refine lv_iload_n hx hb dL_law_250 rfl (lv_at hl 3 rfl) ?_
          refine lv_iconst (v := 1) hx hb dL_law_251 (by decide) ?_
          refine lv_iadd hx hb dL_law_252 ?_
          refine va_sld hx hb hX hbl hbA hS hi_1 dL_law_253 ?_
          rw [← ha1]
          refine lv_aload_n hx hb dL_law_254 rfl (lv_at hl 0 rfl) ?_
          refine lv_iload_n hx hb dL_law_255 rfl (lv_at hl 3 rfl) ?_
          refine lv_iconst (v := 2) hx hb dL_law_256 (by decide) ?_
          refine lv_iadd hx hb dL_law_257 ?_
          refine va_sld hx hb hX hbl hbA hS hi_2 dL_law_258 ?_
          rw [← ha2]
          have J267_6 : W p l e room_1 s m #[Value.ref b] below meth c H locs (60 + 3 * i) (9000 + 38 * i) (lw_Z below #[Value.ref b] s) (F0 m 267 ls [.int (bI (¬ (a2 = 0))), .int a1, .ref (ad 0)]) := by
            refine x_lwL (w2 := mW cI cZ q o g) (As := [.int a1, .int (bI (¬ (a2 = 0)))]) (rest := []) ⟨hx, hb, hml, hown, hts⟩ (tX2_ran l D cI cZ cC ad n t v C FF FO hn hnb a1 (bI (¬ (a2 = 0)))) (cwV 2 hts gL_law_X2_ran rfl rfl rfl (by decide +kernel) ⟨Nat.le_of_ble_eq_true rfl, Nat.le_of_ble_eq_true rfl⟩) hK (va_recv (D := D) (ci := 2) hK (left_P hP) rfl (q0 := 0) rfl) hP hD hS hA rfl hl.1 rfl (Nat.le_of_ble_eq_true rfl) dL_law_267 ⟨show _ ≤ 600000 by omega, show _ ≤ 7302250 by omega⟩ (fun rx H locs erx hP hD hS => ?_)
            refine lv_aload_n hx hb dL_law_270 rfl (lv_at hl 2 rfl) ?_
            refine lv_aload_n hx hb dL_law_271 rfl (lv_at hl 0 rfl) ?_
            refine lv_iload_n hx hb dL_law_272 rfl (lv_at hl 3 rfl) ?_
            refine lv_iconst (v := 1) hx hb dL_law_273 (by decide) ?_
            refine lv_iadd hx hb dL_law_274 ?_
            refine va_sld hx hb hX hbl hbA hS hi_1 dL_law_275 ?_
            rw [← ha1]
            refine lv_aload_n hx hb dL_law_276 rfl (lv_at hl 0 rfl) ?_
            refine lv_iload_n hx hb dL_law_277 rfl (lv_at hl 3 rfl) ?_
            refine lv_iconst (v := 2) hx hb dL_law_278 (by decide) ?_
            refine lv_iadd hx hb dL_law_279 ?_
            refine va_sld hx hb hX hbl hbA hS hi_2 dL_law_280 ?_
            rw [← ha2]
            have J289_7 : W p l e room_1 s m #[Value.ref b] below meth c H locs (60 + 3 * i) (9000 + 38 * i) (lw_Z below #[Value.ref b] s) (F0 m 289 ls [.int (bI (¬ (a2 = 0))), .int a1, .ref o, .int rx]) := by
              refine x_lwR (As := [.int a1, .int (bI (¬ (a2 = 0)))]) (rest := [.int rx]) ⟨hx, hb, hml, hown, hts⟩ (tX3_ran l D cI cZ cC q o g n hgn hnb a1 (bI (¬ (a2 = 0)))) (cwV 2 hts gL_law_X3_ran rfl rfl rfl (by decide +kernel) ⟨Nat.le_of_ble_eq_true rfl, Nat.le_of_ble_eq_true rfl⟩) hK (va_recv (D := D) (ci := 3) hK (right_P hP) rfl (q0 := 0) rfl) hP hD hS hA rfl hl.1 rfl (Nat.le_of_ble_eq_true rfl) dL_law_289 ⟨show _ ≤ 600000 by omega, show _ ≤ 7302250 by omega⟩ (fun rm H locs erm hP hD hS => ?_)
              have hsim := sim_ran hR a1 (bI (¬ (a2 = 0)))
              have eq1 : rx = rm := by rw [erx, erm]; exact hsim.1
              refine lv_icmp_eq (tgt := 692) hx hb dL_law_292 (by decide) (fun _ => ?_) (fun hne => absurd eq1 hne)
              refine lv_iinc (v := nI (i + 8)) (lv' := [(3, .int (nI (i + 8))), (0, .ref b), (1, .ref (ad 0)), (2, .ref o)]) hx hb dL_law_692 hl (k := 3) rfl (nI_add i 8) (by decide) rfl (fun ls hl => ?_)
              refine lv_goto (tgt := 18) hx hb dL_law_695 (by decide) ?_
              refine W.widen (k := 60 + 3 * (i + 8)) (n := 9000 + 38 * (i + 8)) (by omega) (by omega) ?_
              exact ih (i + 8) n mm ad _ _ _ _ _ _ (by omega) (by omega) rfl (Rel.mono hsim.2 (by omega)) H locs ls hP hD hS (lv_sub hl [1, 2, 3, 0] rfl)
            refine lv_if_eq (tgt := 288) hx hb dL_law_281 (by decide) (fun c_9 => ?_) (fun c_9 => ?_)
            · refine lv_iconst (v := 0) hx hb dL_law_288 (by decide) ?_
              rw [bI_f (fun h => h c_9)] at J289_7
              exact J289_7
            · refine lv_iconst (v := 1) hx hb dL_law_284 (by decide) ?_
              refine lv_goto (tgt := 289) hx hb dL_law_285 (by decide) ?_
              rw [bI_t c_9] at J289_7
              exact J289_7
          refine lv_if_eq (tgt := 266) hx hb dL_law_259 (by decide) (fun c_10 => ?_) (fun c_10 => ?_)
          · refine lv_iconst (v := 0) hx hb dL_law_266 (by decide) ?_
            rw [bI_f (fun h => h c_10)] at J267_6
            exact J267_6
          · refine lv_iconst (v := 1) hx hb dL_law_262 (by decide) ?_
            refine lv_goto (tgt := 267) hx hb dL_law_263 (by decide) ?_
            rw [bI_t c_10] at J267_6
            exact J267_6
        · refine lv_tableIn (off := 264) (tgt := 297) hx hb dL_law_33 (by rw [c_2]; decide) (by rw [c_2]; decide) (by rw [c_2]; rfl) (by decide) ?_
          refine lv_aload_n hx hb dL_law_297 rfl (lv_at hl 1 rfl) ?_
          refine x_lwL (w2 := mW cI cZ q o g) (As := []) (rest := []) ⟨hx, hb, hml, hown, hts⟩ (tX2_end l D cI cZ cC ad n t v C FF FO hn hnb hcfo) (cwV 0 hts gL_law_X2_end rfl rfl rfl (by decide +kernel) ⟨Nat.le_of_ble_eq_true rfl, Nat.le_of_ble_eq_true rfl⟩) hK (va_recv (D := D) (ci := 2) hK (left_P hP) rfl (q0 := 0) rfl) hP hD hS hA rfl hl.1 rfl (Nat.le_of_ble_eq_true rfl) dL_law_298 ⟨show _ ≤ 600000 by omega, show _ ≤ 7302250 by omega⟩ (fun rx H locs erx hP hD hS => ?_)
          refine lv_aload_n hx hb dL_law_301 rfl (lv_at hl 2 rfl) ?_
          refine x_lwR (As := []) (rest := [.int rx]) ⟨hx, hb, hml, hown, hts⟩ (tX3_end l D cI cZ cC q o g n hgn hnb hgfo) (cwV 0 hts gL_law_X3_end rfl rfl rfl (by decide +kernel) ⟨Nat.le_of_ble_eq_true rfl, Nat.le_of_ble_eq_true rfl⟩) hK (va_recv (D := D) (ci := 3) hK (right_P hP) rfl (q0 := 0) rfl) hP hD hS hA rfl hl.1 rfl (Nat.le_of_ble_eq_true rfl) dL_law_302 ⟨show _ ≤ 600000 by omega, show _ ≤ 7302250 by omega⟩ (fun rm H locs erm hP hD hS => ?_)
          have hsim := sim_end hR (by omega)
          have eq1 : rx = rm := by rw [erx, erm]; exact hsim.1
          refine lv_icmp_eq (tgt := 692) hx hb dL_law_305 (by decide) (fun _ => ?_) (fun hne => absurd eq1 hne)
          refine lv_iinc (v := nI (i + 8)) (lv' := [(3, .int (nI (i + 8))), (0, .ref b), (1, .ref (ad 0)), (2, .ref o)]) hx hb dL_law_692 hl (k := 3) rfl (nI_add i 8) (by decide) rfl (fun ls hl => ?_)
          refine lv_goto (tgt := 18) hx hb dL_law_695 (by decide) ?_
          refine W.widen (k := 60 + 3 * (i + 8)) (n := 9000 + 38 * (i + 8)) (by omega) (by omega) ?_
          exact ih (i + 8) n mm ad _ _ _ _ _ _ (by omega) (by omega) rfl (Rel.mono hsim.2 (by omega)) H locs ls hP hD hS (lv_sub hl [1, 2, 3, 0] rfl)
        · refine lv_tableIn (off := 277) (tgt := 310) hx hb dL_law_33 (by rw [c_2]; decide) (by rw [c_2]; decide) (by rw [c_2]; rfl) (by decide) ?_
          refine lv_aload_n hx hb dL_law_310 rfl (lv_at hl 1 rfl) ?_
          refine lv_aload_n hx hb dL_law_311 rfl (lv_at hl 0 rfl) ?_
          refine lv_iload_n hx hb dL_law_312 rfl (lv_at hl 3 rfl) ?_
          refine lv_iconst (v := 1) hx hb dL_law_313 (by decide) ?_
          refine lv_iadd hx hb dL_law_314 ?_
          refine va_sld hx hb hX hbl hbA hS hi_1 dL_law_315 ?_
          rw [← ha1]
          refine lv_aload_n hx hb dL_law_316 rfl (lv_at hl 0 rfl) ?_
          refine lv_iload_n hx hb dL_law_317 rfl (lv_at hl 3 rfl) ?_
          refine lv_iconst (v := 2) hx hb dL_law_318 (by decide) ?_
          refine lv_iadd hx hb dL_law_319 ?_
          refine va_sld hx hb hX hbl hbA hS hi_2 dL_law_320 ?_
          rw [← ha2]
          refine x_lwL (w2 := mW cI cZ q o g) (As := [.int a1, .int a2]) (rest := []) ⟨hx, hb, hml, hown, hts⟩ (tX2_fact l D cI cZ cC ad n t v C FF FO hn hnb a1 a2) (cwV 2 hts gL_law_X2_fact rfl rfl rfl (by decide +kernel) ⟨Nat.le_of_ble_eq_true rfl, Nat.le_of_ble_eq_true rfl⟩) hK (va_recv (D := D) (ci := 2) hK (left_P hP) rfl (q0 := 0) rfl) hP hD hS hA rfl hl.1 rfl (Nat.le_of_ble_eq_true rfl) dL_law_321 ⟨show _ ≤ 600000 by omega, show _ ≤ 7302250 by omega⟩ (fun rx H locs erx hP hD hS => ?_)
          refine lv_aload_n hx hb dL_law_324 rfl (lv_at hl 2 rfl) ?_
          refine lv_aload_n hx hb dL_law_325 rfl (lv_at hl 0 rfl) ?_
          refine lv_iload_n hx hb dL_law_326 rfl (lv_at hl 3 rfl) ?_
          refine lv_iconst (v := 1) hx hb dL_law_327 (by decide) ?_
          refine lv_iadd hx hb dL_law_328 ?_
          refine va_sld hx hb hX hbl hbA hS hi_1 dL_law_329 ?_
          rw [← ha1]
          refine lv_aload_n hx hb dL_law_330 rfl (lv_at hl 0 rfl) ?_
          refine lv_iload_n hx hb dL_law_331 rfl (lv_at hl 3 rfl) ?_
          refine lv_iconst (v := 2) hx hb dL_law_332 (by decide) ?_
          refine lv_iadd hx hb dL_law_333 ?_
          refine va_sld hx hb hX hbl hbA hS hi_2 dL_law_334 ?_
          rw [← ha2]
          refine x_lwR (As := [.int a1, .int a2]) (rest := [.int rx]) ⟨hx, hb, hml, hown, hts⟩ (tX3_fact l D cI cZ cC q o g a1 a2) (cwV 2 hts gL_law_X3_fact rfl rfl rfl (by decide +kernel) ⟨Nat.le_of_ble_eq_true rfl, Nat.le_of_ble_eq_true rfl⟩) hK (va_recv (D := D) (ci := 3) hK (right_P hP) rfl (q0 := 0) rfl) hP hD hS hA rfl hl.1 rfl (Nat.le_of_ble_eq_true rfl) dL_law_335 ⟨show _ ≤ 600000 by omega, show _ ≤ 7302250 by omega⟩ (fun rm H locs erm hP hD hS => ?_)
          have hsim := sim_fact hR a1 a2
          have eq1 : rx = rm := by rw [erx, erm]; exact hsim.1
          refine lv_icmp_eq (tgt := 692) hx hb dL_law_338 (by decide) (fun _ => ?_) (fun hne => absurd eq1 hne)
          refine lv_iinc (v := nI (i + 8)) (lv' := [(3, .int (nI (i + 8))), (0, .ref b), (1, .ref (ad 0)), (2, .ref o)]) hx hb dL_law_692 hl (k := 3) rfl (nI_add i 8) (by decide) rfl (fun ls hl => ?_)
          refine lv_goto (tgt := 18) hx hb dL_law_695 (by decide) ?_
          refine W.widen (k := 60 + 3 * (i + 8)) (n := 9000 + 38 * (i + 8)) (by omega) (by omega) ?_
          exact ih (i + 8) n mm ad _ _ _ _ _ _ (by omega) (by omega) rfl (Rel.mono hsim.2 (by omega)) H locs ls hP hD hS (lv_sub hl [1, 2, 3, 0] rfl)
        · refine lv_tableIn (off := 310) (tgt := 343) hx hb dL_law_33 (by rw [c_2]; decide) (by rw [c_2]; decide) (by rw [c_2]; rfl) (by decide) ?_
          refine lv_aload_n hx hb dL_law_343 rfl (lv_at hl 1 rfl) ?_
          refine lv_aload_n hx hb dL_law_344 rfl (lv_at hl 0 rfl) ?_
          refine lv_iload_n hx hb dL_law_345 rfl (lv_at hl 3 rfl) ?_
          refine lv_iconst (v := 1) hx hb dL_law_346 (by decide) ?_
          refine lv_iadd hx hb dL_law_347 ?_
          refine va_sld hx hb hX hbl hbA hS hi_1 dL_law_348 ?_
          rw [← ha1]
          refine x_lwL (w2 := mW cI cZ q o g) (As := [.int a1]) (rest := []) ⟨hx, hb, hml, hown, hts⟩ (tX2_room l D cI cZ cC ad n t v C FF FO hn hnb a1) (cwV 1 hts gL_law_X2_room rfl rfl rfl (by decide +kernel) ⟨Nat.le_of_ble_eq_true rfl, Nat.le_of_ble_eq_true rfl⟩) hK (va_recv (D := D) (ci := 2) hK (left_P hP) rfl (q0 := 0) rfl) hP hD hS hA rfl hl.1 rfl (Nat.le_of_ble_eq_true rfl) dL_law_349 ⟨show _ ≤ 600000 by omega, show _ ≤ 7302250 by omega⟩ (fun rx H locs erx hP hD hS => ?_)
          refine lv_aload_n hx hb dL_law_352 rfl (lv_at hl 2 rfl) ?_
          refine lv_aload_n hx hb dL_law_353 rfl (lv_at hl 0 rfl) ?_
          refine lv_iload_n hx hb dL_law_354 rfl (lv_at hl 3 rfl) ?_
          refine lv_iconst (v := 1) hx hb dL_law_355 (by decide) ?_
          refine lv_iadd hx hb dL_law_356 ?_
          refine va_sld hx hb hX hbl hbA hS hi_1 dL_law_357 ?_
          rw [← ha1]
          refine x_lwR (As := [.int a1]) (rest := [.int rx]) ⟨hx, hb, hml, hown, hts⟩ (tX3_room l D cI cZ cC q o g n hgn hnb a1) (cwV 1 hts gL_law_X3_room rfl rfl rfl (by decide +kernel) ⟨Nat.le_of_ble_eq_true rfl, Nat.le_of_ble_eq_true rfl⟩) hK (va_recv (D := D) (ci := 3) hK (right_P hP) rfl (q0 := 0) rfl) hP hD hS hA rfl hl.1 rfl (Nat.le_of_ble_eq_true rfl) dL_law_358 ⟨show _ ≤ 600000 by omega, show _ ≤ 7302250 by omega⟩ (fun rm H locs erm hP hD hS => ?_)
          have hsim := sim_room hR a1
          have eq1 : rx = rm := by rw [erx, erm]; exact hsim.1
          refine lv_icmp_eq (tgt := 692) hx hb dL_law_361 (by decide) (fun _ => ?_) (fun hne => absurd eq1 hne)
          refine lv_iinc (v := nI (i + 8)) (lv' := [(3, .int (nI (i + 8))), (0, .ref b), (1, .ref (ad 0)), (2, .ref o)]) hx hb dL_law_692 hl (k := 3) rfl (nI_add i 8) (by decide) rfl (fun ls hl => ?_)
          refine lv_goto (tgt := 18) hx hb dL_law_695 (by decide) ?_
          refine W.widen (k := 60 + 3 * (i + 8)) (n := 9000 + 38 * (i + 8)) (by omega) (by omega) ?_
          exact ih (i + 8) n mm ad _ _ _ _ _ _ (by omega) (by omega) rfl (Rel.mono hsim.2 (by omega)) H locs ls hP hD hS (lv_sub hl [1, 2, 3, 0] rfl)
        · refine lv_tableIn (off := 333) (tgt := 366) hx hb dL_law_33 (by rw [c_2]; decide) (by rw [c_2]; decide) (by rw [c_2]; rfl) (by decide) ?_
          refine lv_aload_n hx hb dL_law_366 rfl (lv_at hl 1 rfl) ?_
          refine lv_aload_n hx hb dL_law_367 rfl (lv_at hl 0 rfl) ?_
          refine lv_iload_n hx hb dL_law_368 rfl (lv_at hl 3 rfl) ?_
          refine lv_iconst (v := 1) hx hb dL_law_369 (by decide) ?_
          refine lv_iadd hx hb dL_law_370 ?_
          refine va_sld hx hb hX hbl hbA hS hi_1 dL_law_371 ?_
          rw [← ha1]
          refine lv_aload_n hx hb dL_law_372 rfl (lv_at hl 0 rfl) ?_
          refine lv_iload_n hx hb dL_law_373 rfl (lv_at hl 3 rfl) ?_
          refine lv_iconst (v := 2) hx hb dL_law_374 (by decide) ?_
          refine lv_iadd hx hb dL_law_375 ?_
          refine va_sld hx hb hX hbl hbA hS hi_2 dL_law_376 ?_
          rw [← ha2]
          refine x_rdVN (As := [.int a1, .int a2]) (rest := []) ⟨hx, hb, hml, hown, hts⟩ (tX2_about l D cI cZ cC ad n t v C FF FO hn hnb hcfo a1 a2) (cwV 2 hts gL_law_X2_about rfl rfl rfl (by decide +kernel) ⟨Nat.le_of_ble_eq_true rfl, Nat.le_of_ble_eq_true rfl⟩) hK hN (va_recv (D := D) (ci := 2) hK (left_P hP) rfl (q0 := 0) rfl) (left_P hP) rfl hl.1 rfl (Nat.le_of_ble_eq_true rfl) dL_law_377 ⟨show _ ≤ 600000 by omega, show _ ≤ 7302250 by omega⟩ (fun rx erx => ?_)
          refine lv_aload_n hx hb dL_law_380 rfl (lv_at hl 2 rfl) ?_
          refine lv_aload_n hx hb dL_law_381 rfl (lv_at hl 0 rfl) ?_
          refine lv_iload_n hx hb dL_law_382 rfl (lv_at hl 3 rfl) ?_
          refine lv_iconst (v := 1) hx hb dL_law_383 (by decide) ?_
          refine lv_iadd hx hb dL_law_384 ?_
          refine va_sld hx hb hX hbl hbA hS hi_1 dL_law_385 ?_
          rw [← ha1]
          refine lv_aload_n hx hb dL_law_386 rfl (lv_at hl 0 rfl) ?_
          refine lv_iload_n hx hb dL_law_387 rfl (lv_at hl 3 rfl) ?_
          refine lv_iconst (v := 2) hx hb dL_law_388 (by decide) ?_
          refine lv_iadd hx hb dL_law_389 ?_
          refine va_sld hx hb hX hbl hbA hS hi_2 dL_law_390 ?_
          rw [← ha2]
          refine x_rdV (As := [.int a1, .int a2]) (rest := [.int rx]) ⟨hx, hb, hml, hown, hts⟩ (tX3_about l D cI cZ cC q o g n hgn hnb hgfo a1 a2) (cwV 2 hts gL_law_X3_about rfl rfl rfl (by decide +kernel) ⟨Nat.le_of_ble_eq_true rfl, Nat.le_of_ble_eq_true rfl⟩) hK (va_recv (D := D) (ci := 3) hK (right_P hP) rfl (q0 := 0) rfl) (right_P hP) rfl hl.1 rfl (Nat.le_of_ble_eq_true rfl) dL_law_391 ⟨show _ ≤ 600000 by omega, show _ ≤ 7302250 by omega⟩ (fun rm erm => ?_)
          have eq1 : rx = rm := by rw [erx, erm]; exact sim_about hR a1 a2
          refine lv_icmp_eq (tgt := 692) hx hb dL_law_394 (by decide) (fun _ => ?_) (fun hne => absurd eq1 hne)
          refine lv_iinc (v := nI (i + 8)) (lv' := [(3, .int (nI (i + 8))), (0, .ref b), (1, .ref (ad 0)), (2, .ref o)]) hx hb dL_law_692 hl (k := 3) rfl (nI_add i 8) (by decide) rfl (fun ls hl => ?_)
          refine lv_goto (tgt := 18) hx hb dL_law_695 (by decide) ?_
          refine W.widen (k := 60 + 3 * (i + 8)) (n := 9000 + 38 * (i + 8)) (by omega) (by omega) ?_
          exact ih (i + 8) n mm ad t v C FF FO g (by omega) (by omega) rfl (Rel.mono hR (by omega)) H locs ls hP hD hS (lv_sub hl [1, 2, 3, 0] rfl)
        · refine lv_tableIn (off := 366) (tgt := 399) hx hb dL_law_33 (by rw [c_2]; decide) (by rw [c_2]; decide) (by rw [c_2]; rfl) (by decide) ?_
          refine lv_aload_n hx hb dL_law_399 rfl (lv_at hl 1 rfl) ?_
          refine lv_aload_n hx hb dL_law_400 rfl (lv_at hl 0 rfl) ?_
          refine lv_iload_n hx hb dL_law_401 rfl (lv_at hl 3 rfl) ?_
          refine lv_iconst (v := 1) hx hb dL_law_402 (by decide) ?_
          refine lv_iadd hx hb dL_law_403 ?_
          refine va_sld hx hb hX hbl hbA hS hi_1 dL_law_404 ?_
          rw [← ha1]
          refine lv_aload_n hx hb dL_law_405 rfl (lv_at hl 0 rfl) ?_
          refine lv_iload_n hx hb dL_law_406 rfl (lv_at hl 3 rfl) ?_
          refine lv_iconst (v := 2) hx hb dL_law_407 (by decide) ?_
          refine lv_iadd hx hb dL_law_408 ?_
          refine va_sld hx hb hX hbl hbA hS hi_2 dL_law_409 ?_
          rw [← ha2]
          refine x_rdV (As := [.int a1, .int a2]) (rest := []) ⟨hx, hb, hml, hown, hts⟩ (tX2_frozen l D cI cZ cC ad n t v C FF FO hn hnb a1 a2) (cwV 2 hts gL_law_X2_frozen rfl rfl rfl (by decide +kernel) ⟨Nat.le_of_ble_eq_true rfl, Nat.le_of_ble_eq_true rfl⟩) hK (va_recv (D := D) (ci := 2) hK (left_P hP) rfl (q0 := 0) rfl) (left_P hP) rfl hl.1 rfl (Nat.le_of_ble_eq_true rfl) dL_law_410 ⟨show _ ≤ 600000 by omega, show _ ≤ 7302250 by omega⟩ (fun rx erx => ?_)
          refine lv_aload_n hx hb dL_law_413 rfl (lv_at hl 2 rfl) ?_
          refine lv_aload_n hx hb dL_law_414 rfl (lv_at hl 0 rfl) ?_
          refine lv_iload_n hx hb dL_law_415 rfl (lv_at hl 3 rfl) ?_
          refine lv_iconst (v := 1) hx hb dL_law_416 (by decide) ?_
          refine lv_iadd hx hb dL_law_417 ?_
          refine va_sld hx hb hX hbl hbA hS hi_1 dL_law_418 ?_
          rw [← ha1]
          refine lv_aload_n hx hb dL_law_419 rfl (lv_at hl 0 rfl) ?_
          refine lv_iload_n hx hb dL_law_420 rfl (lv_at hl 3 rfl) ?_
          refine lv_iconst (v := 2) hx hb dL_law_421 (by decide) ?_
          refine lv_iadd hx hb dL_law_422 ?_
          refine va_sld hx hb hX hbl hbA hS hi_2 dL_law_423 ?_
          rw [← ha2]
          refine x_rdV (As := [.int a1, .int a2]) (rest := [.int rx]) ⟨hx, hb, hml, hown, hts⟩ (tX3_frozen l D cI cZ cC q o g n hgn hnb a1 a2) (cwV 2 hts gL_law_X3_frozen rfl rfl rfl (by decide +kernel) ⟨Nat.le_of_ble_eq_true rfl, Nat.le_of_ble_eq_true rfl⟩) hK (va_recv (D := D) (ci := 3) hK (right_P hP) rfl (q0 := 0) rfl) (right_P hP) rfl hl.1 rfl (Nat.le_of_ble_eq_true rfl) dL_law_424 ⟨show _ ≤ 600000 by omega, show _ ≤ 7302250 by omega⟩ (fun rm erm => ?_)
          have eq1 : rx = rm := by rw [erx, erm]; exact sim_frozen hR a1 a2
          refine lv_icmp_eq (tgt := 692) hx hb dL_law_427 (by decide) (fun _ => ?_) (fun hne => absurd eq1 hne)
          refine lv_iinc (v := nI (i + 8)) (lv' := [(3, .int (nI (i + 8))), (0, .ref b), (1, .ref (ad 0)), (2, .ref o)]) hx hb dL_law_692 hl (k := 3) rfl (nI_add i 8) (by decide) rfl (fun ls hl => ?_)
          refine lv_goto (tgt := 18) hx hb dL_law_695 (by decide) ?_
          refine W.widen (k := 60 + 3 * (i + 8)) (n := 9000 + 38 * (i + 8)) (by omega) (by omega) ?_
          exact ih (i + 8) n mm ad t v C FF FO g (by omega) (by omega) rfl (Rel.mono hR (by omega)) H locs ls hP hD hS (lv_sub hl [1, 2, 3, 0] rfl)
        · refine lv_tableIn (off := 399) (tgt := 432) hx hb dL_law_33 (by rw [c_2]; decide) (by rw [c_2]; decide) (by rw [c_2]; rfl) (by decide) ?_
          refine lv_aload_n hx hb dL_law_432 rfl (lv_at hl 1 rfl) ?_
          refine lv_aload_n hx hb dL_law_433 rfl (lv_at hl 0 rfl) ?_
          refine lv_iload_n hx hb dL_law_434 rfl (lv_at hl 3 rfl) ?_
          refine lv_iconst (v := 1) hx hb dL_law_435 (by decide) ?_
          refine lv_iadd hx hb dL_law_436 ?_
          refine va_sld hx hb hX hbl hbA hS hi_1 dL_law_437 ?_
          rw [← ha1]
          refine x_rdV (As := [.int a1]) (rest := []) ⟨hx, hb, hml, hown, hts⟩ (tX2_frozenAt l D cI cZ cC ad n t v C FF FO hn hnb a1) (cwV 1 hts gL_law_X2_frozenAt rfl rfl rfl (by decide +kernel) ⟨Nat.le_of_ble_eq_true rfl, Nat.le_of_ble_eq_true rfl⟩) hK (va_recv (D := D) (ci := 2) hK (left_P hP) rfl (q0 := 0) rfl) (left_P hP) rfl hl.1 rfl (Nat.le_of_ble_eq_true rfl) dL_law_438 ⟨show _ ≤ 600000 by omega, show _ ≤ 7302250 by omega⟩ (fun rx erx => ?_)
          refine lv_aload_n hx hb dL_law_441 rfl (lv_at hl 2 rfl) ?_
          refine lv_aload_n hx hb dL_law_442 rfl (lv_at hl 0 rfl) ?_
          refine lv_iload_n hx hb dL_law_443 rfl (lv_at hl 3 rfl) ?_
          refine lv_iconst (v := 1) hx hb dL_law_444 (by decide) ?_
          refine lv_iadd hx hb dL_law_445 ?_
          refine va_sld hx hb hX hbl hbA hS hi_1 dL_law_446 ?_
          rw [← ha1]
          refine x_rdV (As := [.int a1]) (rest := [.int rx]) ⟨hx, hb, hml, hown, hts⟩ (tX3_frozenAt l D cI cZ cC q o g n hgn hnb a1) (cwV 1 hts gL_law_X3_frozenAt rfl rfl rfl (by decide +kernel) ⟨Nat.le_of_ble_eq_true rfl, Nat.le_of_ble_eq_true rfl⟩) hK (va_recv (D := D) (ci := 3) hK (right_P hP) rfl (q0 := 0) rfl) (right_P hP) rfl hl.1 rfl (Nat.le_of_ble_eq_true rfl) dL_law_447 ⟨show _ ≤ 600000 by omega, show _ ≤ 7302250 by omega⟩ (fun rm erm => ?_)
          have eq1 : rx = rm := by rw [erx, erm]; exact sim_frozenAt hR a1
          refine lv_icmp_eq (tgt := 692) hx hb dL_law_450 (by decide) (fun _ => ?_) (fun hne => absurd eq1 hne)
          refine lv_iinc (v := nI (i + 8)) (lv' := [(3, .int (nI (i + 8))), (0, .ref b), (1, .ref (ad 0)), (2, .ref o)]) hx hb dL_law_692 hl (k := 3) rfl (nI_add i 8) (by decide) rfl (fun ls hl => ?_)
          refine lv_goto (tgt := 18) hx hb dL_law_695 (by decide) ?_
          refine W.widen (k := 60 + 3 * (i + 8)) (n := 9000 + 38 * (i + 8)) (by omega) (by omega) ?_
          exact ih (i + 8) n mm ad t v C FF FO g (by omega) (by omega) rfl (Rel.mono hR (by omega)) H locs ls hP hD hS (lv_sub hl [1, 2, 3, 0] rfl)
        · refine lv_tableIn (off := 422) (tgt := 455) hx hb dL_law_33 (by rw [c_2]; decide) (by rw [c_2]; decide) (by rw [c_2]; rfl) (by decide) ?_
          refine lv_aload_n hx hb dL_law_455 rfl (lv_at hl 1 rfl) ?_
          refine x_rdV (As := []) (rest := []) ⟨hx, hb, hml, hown, hts⟩ (tX2_lamp l D cI cZ cC ad n t v C FF FO hn hnb) (cwV 0 hts gL_law_X2_lamp rfl rfl rfl (by decide +kernel) ⟨Nat.le_of_ble_eq_true rfl, Nat.le_of_ble_eq_true rfl⟩) hK (va_recv (D := D) (ci := 2) hK (left_P hP) rfl (q0 := 0) rfl) (left_P hP) rfl hl.1 rfl (Nat.le_of_ble_eq_true rfl) dL_law_456 ⟨show _ ≤ 600000 by omega, show _ ≤ 7302250 by omega⟩ (fun rx erx => ?_)
          refine lv_aload_n hx hb dL_law_459 rfl (lv_at hl 2 rfl) ?_
          refine x_rdV (As := []) (rest := [.int rx]) ⟨hx, hb, hml, hown, hts⟩ (tX3_lamp l D cI cZ cC q o g n hgn hnb) (cwV 0 hts gL_law_X3_lamp rfl rfl rfl (by decide +kernel) ⟨Nat.le_of_ble_eq_true rfl, Nat.le_of_ble_eq_true rfl⟩) hK (va_recv (D := D) (ci := 3) hK (right_P hP) rfl (q0 := 0) rfl) (right_P hP) rfl hl.1 rfl (Nat.le_of_ble_eq_true rfl) dL_law_460 ⟨show _ ≤ 600000 by omega, show _ ≤ 7302250 by omega⟩ (fun rm erm => ?_)
          have eq1 : rx = rm := by rw [erx, erm]; exact sim_lamp hR 
          refine lv_icmp_eq (tgt := 692) hx hb dL_law_463 (by decide) (fun _ => ?_) (fun hne => absurd eq1 hne)
          refine lv_iinc (v := nI (i + 8)) (lv' := [(3, .int (nI (i + 8))), (0, .ref b), (1, .ref (ad 0)), (2, .ref o)]) hx hb dL_law_692 hl (k := 3) rfl (nI_add i 8) (by decide) rfl (fun ls hl => ?_)
          refine lv_goto (tgt := 18) hx hb dL_law_695 (by decide) ?_
          refine W.widen (k := 60 + 3 * (i + 8)) (n := 9000 + 38 * (i + 8)) (by omega) (by omega) ?_
          exact ih (i + 8) n mm ad t v C FF FO g (by omega) (by omega) rfl (Rel.mono hR (by omega)) H locs ls hP hD hS (lv_sub hl [1, 2, 3, 0] rfl)
        · refine lv_tableIn (off := 435) (tgt := 468) hx hb dL_law_33 (by rw [c_2]; decide) (by rw [c_2]; decide) (by rw [c_2]; rfl) (by decide) ?_
          refine lv_aload_n hx hb dL_law_468 rfl (lv_at hl 1 rfl) ?_
          refine x_lwL (w2 := mW cI cZ q o g) (As := []) (rest := []) ⟨hx, hb, hml, hown, hts⟩ (tX2_clear l D cI cZ cC ad n t v C FF FO hn hnb) (cwV 0 hts gL_law_X2_clear rfl rfl rfl (by decide +kernel) ⟨Nat.le_of_ble_eq_true rfl, Nat.le_of_ble_eq_true rfl⟩) hK (va_recv (D := D) (ci := 2) hK (left_P hP) rfl (q0 := 0) rfl) hP hD hS hA rfl hl.1 rfl (Nat.le_of_ble_eq_true rfl) dL_law_469 ⟨show _ ≤ 600000 by omega, show _ ≤ 7302250 by omega⟩ (fun rx H locs erx hP hD hS => ?_)
          refine lv_aload_n hx hb dL_law_472 rfl (lv_at hl 2 rfl) ?_
          refine x_lwR (As := []) (rest := [.int rx]) ⟨hx, hb, hml, hown, hts⟩ (tX3_clear l D cI cZ cC q o g n hgn hnb) (cwV 0 hts gL_law_X3_clear rfl rfl rfl (by decide +kernel) ⟨Nat.le_of_ble_eq_true rfl, Nat.le_of_ble_eq_true rfl⟩) hK (va_recv (D := D) (ci := 3) hK (right_P hP) rfl (q0 := 0) rfl) hP hD hS hA rfl hl.1 rfl (Nat.le_of_ble_eq_true rfl) dL_law_473 ⟨show _ ≤ 600000 by omega, show _ ≤ 7302250 by omega⟩ (fun rm H locs erm hP hD hS => ?_)
          have hsim := sim_clear hR 
          have eq1 : rx = rm := by rw [erx, erm]; exact hsim.1
          refine lv_icmp_eq (tgt := 692) hx hb dL_law_476 (by decide) (fun _ => ?_) (fun hne => absurd eq1 hne)
          refine lv_iinc (v := nI (i + 8)) (lv' := [(3, .int (nI (i + 8))), (0, .ref b), (1, .ref (ad 0)), (2, .ref o)]) hx hb dL_law_692 hl (k := 3) rfl (nI_add i 8) (by decide) rfl (fun ls hl => ?_)
          refine lv_goto (tgt := 18) hx hb dL_law_695 (by decide) ?_
          refine W.widen (k := 60 + 3 * (i + 8)) (n := 9000 + 38 * (i + 8)) (by omega) (by omega) ?_
          exact ih (i + 8) n mm ad _ _ _ _ _ _ (by omega) (by omega) rfl (Rel.mono hsim.2 (by omega)) H locs ls hP hD hS (lv_sub hl [1, 2, 3, 0] rfl)
        · refine lv_tableIn (off := 448) (tgt := 481) hx hb dL_law_33 (by rw [c_2]; decide) (by rw [c_2]; decide) (by rw [c_2]; rfl) (by decide) ?_
          refine lv_aload_n hx hb dL_law_481 rfl (lv_at hl 1 rfl) ?_
          refine lv_aload_n hx hb dL_law_482 rfl (lv_at hl 0 rfl) ?_
          refine lv_iload_n hx hb dL_law_483 rfl (lv_at hl 3 rfl) ?_
          refine lv_iconst (v := 1) hx hb dL_law_484 (by decide) ?_
          refine lv_iadd hx hb dL_law_485 ?_
          refine va_sld hx hb hX hbl hbA hS hi_1 dL_law_486 ?_
          rw [← ha1]
          refine lv_aload_n hx hb dL_law_487 rfl (lv_at hl 0 rfl) ?_
          refine lv_iload_n hx hb dL_law_488 rfl (lv_at hl 3 rfl) ?_
          refine lv_iconst (v := 2) hx hb dL_law_489 (by decide) ?_
          refine lv_iadd hx hb dL_law_490 ?_
          refine va_sld hx hb hX hbl hbA hS hi_2 dL_law_491 ?_
          rw [← ha2]
          refine x_lwL (w2 := mW cI cZ q o g) (As := [.int a1, .int a2]) (rest := []) ⟨hx, hb, hml, hown, hts⟩ (tX2_cause l D cI cZ cC ad n t v C FF FO hn hnb mm hm hmb a1 a2) (cwV 2 hts gL_law_X2_cause rfl rfl rfl (by decide +kernel) ⟨Nat.le_of_ble_eq_true rfl, Nat.le_of_ble_eq_true rfl⟩) hK (va_recv (D := D) (ci := 2) hK (left_P hP) rfl (q0 := 0) rfl) hP hD hS hA rfl hl.1 rfl (Nat.le_of_ble_eq_true rfl) dL_law_492 ⟨show _ ≤ 600000 by omega, show _ ≤ 7302250 by omega⟩ (fun rx H locs erx hP hD hS => ?_)
          refine lv_aload_n hx hb dL_law_495 rfl (lv_at hl 2 rfl) ?_
          refine lv_aload_n hx hb dL_law_496 rfl (lv_at hl 0 rfl) ?_
          refine lv_iload_n hx hb dL_law_497 rfl (lv_at hl 3 rfl) ?_
          refine lv_iconst (v := 1) hx hb dL_law_498 (by decide) ?_
          refine lv_iadd hx hb dL_law_499 ?_
          refine va_sld hx hb hX hbl hbA hS hi_1 dL_law_500 ?_
          rw [← ha1]
          refine lv_aload_n hx hb dL_law_501 rfl (lv_at hl 0 rfl) ?_
          refine lv_iload_n hx hb dL_law_502 rfl (lv_at hl 3 rfl) ?_
          refine lv_iconst (v := 2) hx hb dL_law_503 (by decide) ?_
          refine lv_iadd hx hb dL_law_504 ?_
          refine va_sld hx hb hX hbl hbA hS hi_2 dL_law_505 ?_
          rw [← ha2]
          refine x_lwR (As := [.int a1, .int a2]) (rest := [.int rx]) ⟨hx, hb, hml, hown, hts⟩ (tX3_cause l D cI cZ cC q o g n hgn hnb mm hgm hmb a1 a2) (cwV 2 hts gL_law_X3_cause rfl rfl rfl (by decide +kernel) ⟨Nat.le_of_ble_eq_true rfl, Nat.le_of_ble_eq_true rfl⟩) hK (va_recv (D := D) (ci := 3) hK (right_P hP) rfl (q0 := 0) rfl) hP hD hS hA rfl hl.1 rfl (Nat.le_of_ble_eq_true rfl) dL_law_506 ⟨show _ ≤ 600000 by omega, show _ ≤ 7302250 by omega⟩ (fun rm H locs erm hP hD hS => ?_)
          have hsim := sim_cause hR a1 a2
          have eq1 : rx = rm := by rw [erx, erm]; exact hsim.1
          refine lv_icmp_eq (tgt := 692) hx hb dL_law_509 (by decide) (fun _ => ?_) (fun hne => absurd eq1 hne)
          obtain ⟨m2, hs2⟩ := hsim.2
          refine lv_iinc (v := nI (i + 8)) (lv' := [(3, .int (nI (i + 8))), (0, .ref b), (1, .ref (ad 0)), (2, .ref o)]) hx hb dL_law_692 hl (k := 3) rfl (nI_add i 8) (by decide) rfl (fun ls hl => ?_)
          refine lv_goto (tgt := 18) hx hb dL_law_695 (by decide) ?_
          refine W.widen (k := 60 + 3 * (i + 8)) (n := 9000 + 38 * (i + 8)) (by omega) (by omega) ?_
          exact ih (i + 8) n m2 ad _ _ _ _ _ _ (by omega) (by omega) rfl (Rel.mono hs2 (by omega)) H locs ls hP hD hS (lv_sub hl [1, 2, 3, 0] rfl)
        · refine lv_tableIn (off := 481) (tgt := 514) hx hb dL_law_33 (by rw [c_2]; decide) (by rw [c_2]; decide) (by rw [c_2]; rfl) (by decide) ?_
          refine lv_aload_n hx hb dL_law_514 rfl (lv_at hl 1 rfl) ?_
          refine lv_aload_n hx hb dL_law_515 rfl (lv_at hl 0 rfl) ?_
          refine lv_iload_n hx hb dL_law_516 rfl (lv_at hl 3 rfl) ?_
          refine lv_iconst (v := 1) hx hb dL_law_517 (by decide) ?_
          refine lv_iadd hx hb dL_law_518 ?_
          refine va_sld hx hb hX hbl hbA hS hi_1 dL_law_519 ?_
          rw [← ha1]
          refine x_rdV (As := [.int a1]) (rest := []) ⟨hx, hb, hml, hown, hts⟩ (tX2_explains l D cI cZ cC ad n t v C FF FO hn hnb mm hm hmb a1) (cwV 1 hts gL_law_X2_explains rfl rfl rfl (by decide +kernel) ⟨Nat.le_of_ble_eq_true rfl, Nat.le_of_ble_eq_true rfl⟩) hK (va_recv (D := D) (ci := 2) hK (left_P hP) rfl (q0 := 0) rfl) (left_P hP) rfl hl.1 rfl (Nat.le_of_ble_eq_true rfl) dL_law_520 ⟨show _ ≤ 600000 by omega, show _ ≤ 7302250 by omega⟩ (fun rx erx => ?_)
          refine lv_aload_n hx hb dL_law_523 rfl (lv_at hl 2 rfl) ?_
          refine lv_aload_n hx hb dL_law_524 rfl (lv_at hl 0 rfl) ?_
          refine lv_iload_n hx hb dL_law_525 rfl (lv_at hl 3 rfl) ?_
          refine lv_iconst (v := 1) hx hb dL_law_526 (by decide) ?_
          refine lv_iadd hx hb dL_law_527 ?_
          refine va_sld hx hb hX hbl hbA hS hi_1 dL_law_528 ?_
          rw [← ha1]
          refine x_rdV (As := [.int a1]) (rest := [.int rx]) ⟨hx, hb, hml, hown, hts⟩ (tX3_explains l D cI cZ cC q o g n hgn hnb mm hgm hmb a1) (cwV 1 hts gL_law_X3_explains rfl rfl rfl (by decide +kernel) ⟨Nat.le_of_ble_eq_true rfl, Nat.le_of_ble_eq_true rfl⟩) hK (va_recv (D := D) (ci := 3) hK (right_P hP) rfl (q0 := 0) rfl) (right_P hP) rfl hl.1 rfl (Nat.le_of_ble_eq_true rfl) dL_law_529 ⟨show _ ≤ 600000 by omega, show _ ≤ 7302250 by omega⟩ (fun rm erm => ?_)
          have eq1 : rx = rm := by rw [erx, erm]; exact sim_explains hR a1
          refine lv_icmp_eq (tgt := 692) hx hb dL_law_532 (by decide) (fun _ => ?_) (fun hne => absurd eq1 hne)
          refine lv_iinc (v := nI (i + 8)) (lv' := [(3, .int (nI (i + 8))), (0, .ref b), (1, .ref (ad 0)), (2, .ref o)]) hx hb dL_law_692 hl (k := 3) rfl (nI_add i 8) (by decide) rfl (fun ls hl => ?_)
          refine lv_goto (tgt := 18) hx hb dL_law_695 (by decide) ?_
          refine W.widen (k := 60 + 3 * (i + 8)) (n := 9000 + 38 * (i + 8)) (by omega) (by omega) ?_
          exact ih (i + 8) n mm ad t v C FF FO g (by omega) (by omega) rfl (Rel.mono hR (by omega)) H locs ls hP hD hS (lv_sub hl [1, 2, 3, 0] rfl)
        · refine lv_tableIn (off := 504) (tgt := 537) hx hb dL_law_33 (by rw [c_2]; decide) (by rw [c_2]; decide) (by rw [c_2]; rfl) (by decide) ?_
          refine lv_aload_n hx hb dL_law_537 rfl (lv_at hl 1 rfl) ?_
          refine x_lwL (w2 := mW cI cZ q o g) (As := []) (rest := []) ⟨hx, hb, hml, hown, hts⟩ (tX2_least l D cI cZ cC ad n t v C FF FO hn hnb mm hm hmb) (cwV 0 hts gL_law_X2_least rfl rfl rfl (by decide +kernel) ⟨Nat.le_of_ble_eq_true rfl, Nat.le_of_ble_eq_true rfl⟩) hK (va_recv (D := D) (ci := 2) hK (left_P hP) rfl (q0 := 0) rfl) hP hD hS hA rfl hl.1 rfl (Nat.le_of_ble_eq_true rfl) dL_law_538 ⟨show _ ≤ 600000 by omega, show _ ≤ 7302250 by omega⟩ (fun rx H locs erx hP hD hS => ?_)
          refine lv_aload_n hx hb dL_law_541 rfl (lv_at hl 2 rfl) ?_
          refine x_lwR (As := []) (rest := [.int rx]) ⟨hx, hb, hml, hown, hts⟩ (tX3_least l D cI cZ cC q o g n hgn hnb mm hgm hmb) (cwV 0 hts gL_law_X3_least rfl rfl rfl (by decide +kernel) ⟨Nat.le_of_ble_eq_true rfl, Nat.le_of_ble_eq_true rfl⟩) hK (va_recv (D := D) (ci := 3) hK (right_P hP) rfl (q0 := 0) rfl) hP hD hS hA rfl hl.1 rfl (Nat.le_of_ble_eq_true rfl) dL_law_542 ⟨show _ ≤ 600000 by omega, show _ ≤ 7302250 by omega⟩ (fun rm H locs erm hP hD hS => ?_)
          have hsim := sim_least hR 
          have eq1 : rx = rm := by rw [erx, erm]; exact hsim.1
          refine lv_icmp_eq (tgt := 692) hx hb dL_law_545 (by decide) (fun _ => ?_) (fun hne => absurd eq1 hne)
          refine lv_iinc (v := nI (i + 8)) (lv' := [(3, .int (nI (i + 8))), (0, .ref b), (1, .ref (ad 0)), (2, .ref o)]) hx hb dL_law_692 hl (k := 3) rfl (nI_add i 8) (by decide) rfl (fun ls hl => ?_)
          refine lv_goto (tgt := 18) hx hb dL_law_695 (by decide) ?_
          refine W.widen (k := 60 + 3 * (i + 8)) (n := 9000 + 38 * (i + 8)) (by omega) (by omega) ?_
          exact ih (i + 8) n mm ad _ _ _ _ _ _ (by omega) (by omega) rfl (Rel.mono hsim.2 (by omega)) H locs ls hP hD hS (lv_sub hl [1, 2, 3, 0] rfl)
        · refine lv_tableIn (off := 517) (tgt := 550) hx hb dL_law_33 (by rw [c_2]; decide) (by rw [c_2]; decide) (by rw [c_2]; rfl) (by decide) ?_
          refine lv_aload_n hx hb dL_law_550 rfl (lv_at hl 1 rfl) ?_
          refine lv_aload_n hx hb dL_law_551 rfl (lv_at hl 0 rfl) ?_
          refine lv_iload_n hx hb dL_law_552 rfl (lv_at hl 3 rfl) ?_
          refine lv_iconst (v := 1) hx hb dL_law_553 (by decide) ?_
          refine lv_iadd hx hb dL_law_554 ?_
          refine va_sld hx hb hX hbl hbA hS hi_1 dL_law_555 ?_
          rw [← ha1]
          refine x_lwL (w2 := mW cI cZ q o g) (As := [.int a1]) (rest := []) ⟨hx, hb, hml, hown, hts⟩ (tX2_leastAt l D cI cZ cC ad n t v C FF FO hn hnb mm hm hmb hv5 a1) (cwV 1 hts gL_law_X2_leastAt rfl rfl rfl (by decide +kernel) ⟨Nat.le_of_ble_eq_true rfl, Nat.le_of_ble_eq_true rfl⟩) hK (va_recv (D := D) (ci := 2) hK (left_P hP) rfl (q0 := 0) rfl) hP hD hS hA rfl hl.1 rfl (Nat.le_of_ble_eq_true rfl) dL_law_556 ⟨show _ ≤ 600000 by omega, show _ ≤ 7302250 by omega⟩ (fun rx H locs erx hP hD hS => ?_)
          refine lv_aload_n hx hb dL_law_559 rfl (lv_at hl 2 rfl) ?_
          refine lv_aload_n hx hb dL_law_560 rfl (lv_at hl 0 rfl) ?_
          refine lv_iload_n hx hb dL_law_561 rfl (lv_at hl 3 rfl) ?_
          refine lv_iconst (v := 1) hx hb dL_law_562 (by decide) ?_
          refine lv_iadd hx hb dL_law_563 ?_
          refine va_sld hx hb hX hbl hbA hS hi_1 dL_law_564 ?_
          rw [← ha1]
          refine x_lwR (As := [.int a1]) (rest := [.int rx]) ⟨hx, hb, hml, hown, hts⟩ (tX3_leastAt l D cI cZ cC q o g n hgn hnb mm hgm hmb a1) (cwV 1 hts gL_law_X3_leastAt rfl rfl rfl (by decide +kernel) ⟨Nat.le_of_ble_eq_true rfl, Nat.le_of_ble_eq_true rfl⟩) hK (va_recv (D := D) (ci := 3) hK (right_P hP) rfl (q0 := 0) rfl) hP hD hS hA rfl hl.1 rfl (Nat.le_of_ble_eq_true rfl) dL_law_565 ⟨show _ ≤ 600000 by omega, show _ ≤ 7302250 by omega⟩ (fun rm H locs erm hP hD hS => ?_)
          have hsim := sim_leastAt hR a1
          have eq1 : rx = rm := by rw [erx, erm]; exact hsim.1
          refine lv_icmp_eq (tgt := 692) hx hb dL_law_568 (by decide) (fun _ => ?_) (fun hne => absurd eq1 hne)
          refine lv_iinc (v := nI (i + 8)) (lv' := [(3, .int (nI (i + 8))), (0, .ref b), (1, .ref (ad 0)), (2, .ref o)]) hx hb dL_law_692 hl (k := 3) rfl (nI_add i 8) (by decide) rfl (fun ls hl => ?_)
          refine lv_goto (tgt := 18) hx hb dL_law_695 (by decide) ?_
          refine W.widen (k := 60 + 3 * (i + 8)) (n := 9000 + 38 * (i + 8)) (by omega) (by omega) ?_
          exact ih (i + 8) n mm ad _ _ _ _ _ _ (by omega) (by omega) rfl (Rel.mono hsim.2 (by omega)) H locs ls hP hD hS (lv_sub hl [1, 2, 3, 0] rfl)
        · refine lv_tableIn (off := 540) (tgt := 573) hx hb dL_law_33 (by rw [c_2]; decide) (by rw [c_2]; decide) (by rw [c_2]; rfl) (by decide) ?_
          refine lv_aload_n hx hb dL_law_573 rfl (lv_at hl 1 rfl) ?_
          refine x_lwL (w2 := mW cI cZ q o g) (As := []) (rest := []) ⟨hx, hb, hml, hown, hts⟩ (tX2_plan l D cI cZ cC ad n t v C FF FO hn hnb mm hm hmb hv5) (cwV 0 hts gL_law_X2_plan rfl rfl rfl (by decide +kernel) ⟨Nat.le_of_ble_eq_true rfl, Nat.le_of_ble_eq_true rfl⟩) hK (va_recv (D := D) (ci := 2) hK (left_P hP) rfl (q0 := 0) rfl) hP hD hS hA rfl hl.1 rfl (Nat.le_of_ble_eq_true rfl) dL_law_574 ⟨show _ ≤ 600000 by omega, show _ ≤ 7302250 by omega⟩ (fun rx H locs erx hP hD hS => ?_)
          refine lv_aload_n hx hb dL_law_577 rfl (lv_at hl 2 rfl) ?_
          refine x_lwR (As := []) (rest := [.int rx]) ⟨hx, hb, hml, hown, hts⟩ (tX3_plan l D cI cZ cC q o g n hgn hnb mm hgm hmb) (cwV 0 hts gL_law_X3_plan rfl rfl rfl (by decide +kernel) ⟨Nat.le_of_ble_eq_true rfl, Nat.le_of_ble_eq_true rfl⟩) hK (va_recv (D := D) (ci := 3) hK (right_P hP) rfl (q0 := 0) rfl) hP hD hS hA rfl hl.1 rfl (Nat.le_of_ble_eq_true rfl) dL_law_578 ⟨show _ ≤ 600000 by omega, show _ ≤ 7302250 by omega⟩ (fun rm H locs erm hP hD hS => ?_)
          have hsim := sim_plan hR 
          have eq1 : rx = rm := by rw [erx, erm]; exact hsim.1
          refine lv_icmp_eq (tgt := 692) hx hb dL_law_581 (by decide) (fun _ => ?_) (fun hne => absurd eq1 hne)
          refine lv_iinc (v := nI (i + 8)) (lv' := [(3, .int (nI (i + 8))), (0, .ref b), (1, .ref (ad 0)), (2, .ref o)]) hx hb dL_law_692 hl (k := 3) rfl (nI_add i 8) (by decide) rfl (fun ls hl => ?_)
          refine lv_goto (tgt := 18) hx hb dL_law_695 (by decide) ?_
          refine W.widen (k := 60 + 3 * (i + 8)) (n := 9000 + 38 * (i + 8)) (by omega) (by omega) ?_
          exact ih (i + 8) n mm ad _ _ _ _ _ _ (by omega) (by omega) rfl (Rel.mono hsim.2 (by omega)) H locs ls hP hD hS (lv_sub hl [1, 2, 3, 0] rfl)
        · refine lv_tableIn (off := 553) (tgt := 586) hx hb dL_law_33 (by rw [c_2]; decide) (by rw [c_2]; decide) (by rw [c_2]; rfl) (by decide) ?_
          refine lv_aload_n hx hb dL_law_586 rfl (lv_at hl 1 rfl) ?_
          refine x_lwL (w2 := mW cI cZ q o g) (As := []) (rest := []) ⟨hx, hb, hml, hown, hts⟩ (tX2_test l D cI cZ cC ad n t v C FF FO hn hnb mm hm hmb hv5) (cwV 0 hts gL_law_X2_test rfl rfl rfl (by decide +kernel) ⟨Nat.le_of_ble_eq_true rfl, Nat.le_of_ble_eq_true rfl⟩) hK (va_recv (D := D) (ci := 2) hK (left_P hP) rfl (q0 := 0) rfl) hP hD hS hA rfl hl.1 rfl (Nat.le_of_ble_eq_true rfl) dL_law_587 ⟨show _ ≤ 600000 by omega, show _ ≤ 7302250 by omega⟩ (fun rx H locs erx hP hD hS => ?_)
          refine lv_aload_n hx hb dL_law_590 rfl (lv_at hl 2 rfl) ?_
          refine x_lwR (As := []) (rest := [.int rx]) ⟨hx, hb, hml, hown, hts⟩ (tX3_test l D cI cZ cC q o g n hgn hnb mm hgm hmb) (cwV 0 hts gL_law_X3_test rfl rfl rfl (by decide +kernel) ⟨Nat.le_of_ble_eq_true rfl, Nat.le_of_ble_eq_true rfl⟩) hK (va_recv (D := D) (ci := 3) hK (right_P hP) rfl (q0 := 0) rfl) hP hD hS hA rfl hl.1 rfl (Nat.le_of_ble_eq_true rfl) dL_law_591 ⟨show _ ≤ 600000 by omega, show _ ≤ 7302250 by omega⟩ (fun rm H locs erm hP hD hS => ?_)
          have hsim := sim_test hR 
          have eq1 : rx = rm := by rw [erx, erm]; exact hsim.1
          refine lv_icmp_eq (tgt := 692) hx hb dL_law_594 (by decide) (fun _ => ?_) (fun hne => absurd eq1 hne)
          refine lv_iinc (v := nI (i + 8)) (lv' := [(3, .int (nI (i + 8))), (0, .ref b), (1, .ref (ad 0)), (2, .ref o)]) hx hb dL_law_692 hl (k := 3) rfl (nI_add i 8) (by decide) rfl (fun ls hl => ?_)
          refine lv_goto (tgt := 18) hx hb dL_law_695 (by decide) ?_
          refine W.widen (k := 60 + 3 * (i + 8)) (n := 9000 + 38 * (i + 8)) (by omega) (by omega) ?_
          exact ih (i + 8) n mm ad _ _ _ _ _ _ (by omega) (by omega) rfl (Rel.mono hsim.2 (by omega)) H locs ls hP hD hS (lv_sub hl [1, 2, 3, 0] rfl)
        · refine lv_tableIn (off := 566) (tgt := 599) hx hb dL_law_33 (by rw [c_2]; decide) (by rw [c_2]; decide) (by rw [c_2]; rfl) (by decide) ?_
          refine lv_aload_n hx hb dL_law_599 rfl (lv_at hl 1 rfl) ?_
          refine lv_aload_n hx hb dL_law_600 rfl (lv_at hl 0 rfl) ?_
          refine lv_iload_n hx hb dL_law_601 rfl (lv_at hl 3 rfl) ?_
          refine lv_iconst (v := 1) hx hb dL_law_602 (by decide) ?_
          refine lv_iadd hx hb dL_law_603 ?_
          refine va_sld hx hb hX hbl hbA hS hi_1 dL_law_604 ?_
          rw [← ha1]
          refine lv_aload_n hx hb dL_law_605 rfl (lv_at hl 0 rfl) ?_
          refine lv_iload_n hx hb dL_law_606 rfl (lv_at hl 3 rfl) ?_
          refine lv_iconst (v := 2) hx hb dL_law_607 (by decide) ?_
          refine lv_iadd hx hb dL_law_608 ?_
          refine va_sld hx hb hX hbl hbA hS hi_2 dL_law_609 ?_
          rw [← ha2]
          refine x_rdV (As := [.int a1, .int a2]) (rest := []) ⟨hx, hb, hml, hown, hts⟩ (tX2_foretells l D cI cZ cC ad n t v C FF FO hn hnb a1 a2) (cwV 2 hts gL_law_X2_foretells rfl rfl rfl (by decide +kernel) ⟨Nat.le_of_ble_eq_true rfl, Nat.le_of_ble_eq_true rfl⟩) hK (va_recv (D := D) (ci := 2) hK (left_P hP) rfl (q0 := 0) rfl) (left_P hP) rfl hl.1 rfl (Nat.le_of_ble_eq_true rfl) dL_law_610 ⟨show _ ≤ 600000 by omega, show _ ≤ 7302250 by omega⟩ (fun rx erx => ?_)
          refine lv_aload_n hx hb dL_law_613 rfl (lv_at hl 2 rfl) ?_
          refine lv_aload_n hx hb dL_law_614 rfl (lv_at hl 0 rfl) ?_
          refine lv_iload_n hx hb dL_law_615 rfl (lv_at hl 3 rfl) ?_
          refine lv_iconst (v := 1) hx hb dL_law_616 (by decide) ?_
          refine lv_iadd hx hb dL_law_617 ?_
          refine va_sld hx hb hX hbl hbA hS hi_1 dL_law_618 ?_
          rw [← ha1]
          refine lv_aload_n hx hb dL_law_619 rfl (lv_at hl 0 rfl) ?_
          refine lv_iload_n hx hb dL_law_620 rfl (lv_at hl 3 rfl) ?_
          refine lv_iconst (v := 2) hx hb dL_law_621 (by decide) ?_
          refine lv_iadd hx hb dL_law_622 ?_
          refine va_sld hx hb hX hbl hbA hS hi_2 dL_law_623 ?_
          rw [← ha2]
          refine x_rdV (As := [.int a1, .int a2]) (rest := [.int rx]) ⟨hx, hb, hml, hown, hts⟩ (tX3_foretells l D cI cZ cC q o g n hgn hnb a1 a2) (cwV 2 hts gL_law_X3_foretells rfl rfl rfl (by decide +kernel) ⟨Nat.le_of_ble_eq_true rfl, Nat.le_of_ble_eq_true rfl⟩) hK (va_recv (D := D) (ci := 3) hK (right_P hP) rfl (q0 := 0) rfl) (right_P hP) rfl hl.1 rfl (Nat.le_of_ble_eq_true rfl) dL_law_624 ⟨show _ ≤ 600000 by omega, show _ ≤ 7302250 by omega⟩ (fun rm erm => ?_)
          have eq1 : rx = rm := by rw [erx, erm]; exact sim_foretells hR a1 a2
          refine lv_icmp_eq (tgt := 692) hx hb dL_law_627 (by decide) (fun _ => ?_) (fun hne => absurd eq1 hne)
          refine lv_iinc (v := nI (i + 8)) (lv' := [(3, .int (nI (i + 8))), (0, .ref b), (1, .ref (ad 0)), (2, .ref o)]) hx hb dL_law_692 hl (k := 3) rfl (nI_add i 8) (by decide) rfl (fun ls hl => ?_)
          refine lv_goto (tgt := 18) hx hb dL_law_695 (by decide) ?_
          refine W.widen (k := 60 + 3 * (i + 8)) (n := 9000 + 38 * (i + 8)) (by omega) (by omega) ?_
          exact ih (i + 8) n mm ad t v C FF FO g (by omega) (by omega) rfl (Rel.mono hR (by omega)) H locs ls hP hD hS (lv_sub hl [1, 2, 3, 0] rfl)
        · refine lv_tableIn (off := 599) (tgt := 632) hx hb dL_law_33 (by rw [c_2]; decide) (by rw [c_2]; decide) (by rw [c_2]; rfl) (by decide) ?_
          refine lv_aload_n hx hb dL_law_632 rfl (lv_at hl 1 rfl) ?_
          refine lv_aload_n hx hb dL_law_633 rfl (lv_at hl 0 rfl) ?_
          refine lv_iload_n hx hb dL_law_634 rfl (lv_at hl 3 rfl) ?_
          refine lv_iconst (v := 1) hx hb dL_law_635 (by decide) ?_
          refine lv_iadd hx hb dL_law_636 ?_
          refine va_sld hx hb hX hbl hbA hS hi_1 dL_law_637 ?_
          rw [← ha1]
          refine x_rdV (As := [.int a1]) (rest := []) ⟨hx, hb, hml, hown, hts⟩ (tX2_sets l D cI cZ cC ad n t v C FF FO hn hnb a1) (cwV 1 hts gL_law_X2_sets rfl rfl rfl (by decide +kernel) ⟨Nat.le_of_ble_eq_true rfl, Nat.le_of_ble_eq_true rfl⟩) hK (va_recv (D := D) (ci := 2) hK (left_P hP) rfl (q0 := 0) rfl) (left_P hP) rfl hl.1 rfl (Nat.le_of_ble_eq_true rfl) dL_law_638 ⟨show _ ≤ 600000 by omega, show _ ≤ 7302250 by omega⟩ (fun rx erx => ?_)
          refine lv_aload_n hx hb dL_law_641 rfl (lv_at hl 2 rfl) ?_
          refine lv_aload_n hx hb dL_law_642 rfl (lv_at hl 0 rfl) ?_
          refine lv_iload_n hx hb dL_law_643 rfl (lv_at hl 3 rfl) ?_
          refine lv_iconst (v := 1) hx hb dL_law_644 (by decide) ?_
          refine lv_iadd hx hb dL_law_645 ?_
          refine va_sld hx hb hX hbl hbA hS hi_1 dL_law_646 ?_
          rw [← ha1]
          refine x_rdV (As := [.int a1]) (rest := [.int rx]) ⟨hx, hb, hml, hown, hts⟩ (tX3_sets l D cI cZ cC q o g n hgn hnb a1) (cwV 1 hts gL_law_X3_sets rfl rfl rfl (by decide +kernel) ⟨Nat.le_of_ble_eq_true rfl, Nat.le_of_ble_eq_true rfl⟩) hK (va_recv (D := D) (ci := 3) hK (right_P hP) rfl (q0 := 0) rfl) (right_P hP) rfl hl.1 rfl (Nat.le_of_ble_eq_true rfl) dL_law_647 ⟨show _ ≤ 600000 by omega, show _ ≤ 7302250 by omega⟩ (fun rm erm => ?_)
          have eq1 : rx = rm := by rw [erx, erm]; exact sim_sets hR a1
          refine lv_icmp_eq (tgt := 692) hx hb dL_law_650 (by decide) (fun _ => ?_) (fun hne => absurd eq1 hne)
          refine lv_iinc (v := nI (i + 8)) (lv' := [(3, .int (nI (i + 8))), (0, .ref b), (1, .ref (ad 0)), (2, .ref o)]) hx hb dL_law_692 hl (k := 3) rfl (nI_add i 8) (by decide) rfl (fun ls hl => ?_)
          refine lv_goto (tgt := 18) hx hb dL_law_695 (by decide) ?_
          refine W.widen (k := 60 + 3 * (i + 8)) (n := 9000 + 38 * (i + 8)) (by omega) (by omega) ?_
          exact ih (i + 8) n mm ad t v C FF FO g (by omega) (by omega) rfl (Rel.mono hR (by omega)) H locs ls hP hD hS (lv_sub hl [1, 2, 3, 0] rfl)
        · refine lv_tableIn (off := 622) (tgt := 655) hx hb dL_law_33 (by rw [c_2]; decide) (by rw [c_2]; decide) (by rw [c_2]; rfl) (by decide) ?_
          refine lv_aload_n hx hb dL_law_655 rfl (lv_at hl 1 rfl) ?_
          refine lv_aload_n hx hb dL_law_656 rfl (lv_at hl 0 rfl) ?_
          refine lv_iload_n hx hb dL_law_657 rfl (lv_at hl 3 rfl) ?_
          refine lv_iconst (v := 1) hx hb dL_law_658 (by decide) ?_
          refine lv_iadd hx hb dL_law_659 ?_
          refine va_sld hx hb hX hbl hbA hS hi_1 dL_law_660 ?_
          rw [← ha1]
          refine x_rdV (As := [.int a1]) (rest := []) ⟨hx, hb, hml, hown, hts⟩ (tX2_count l D cI cZ cC ad n t v C FF FO hn hnb a1) (cwV 1 hts gL_law_X2_count rfl rfl rfl (by decide +kernel) ⟨Nat.le_of_ble_eq_true rfl, Nat.le_of_ble_eq_true rfl⟩) hK (va_recv (D := D) (ci := 2) hK (left_P hP) rfl (q0 := 0) rfl) (left_P hP) rfl hl.1 rfl (Nat.le_of_ble_eq_true rfl) dL_law_661 ⟨show _ ≤ 600000 by omega, show _ ≤ 7302250 by omega⟩ (fun rx erx => ?_)
          refine lv_aload_n hx hb dL_law_664 rfl (lv_at hl 2 rfl) ?_
          refine lv_aload_n hx hb dL_law_665 rfl (lv_at hl 0 rfl) ?_
          refine lv_iload_n hx hb dL_law_666 rfl (lv_at hl 3 rfl) ?_
          refine lv_iconst (v := 1) hx hb dL_law_667 (by decide) ?_
          refine lv_iadd hx hb dL_law_668 ?_
          refine va_sld hx hb hX hbl hbA hS hi_1 dL_law_669 ?_
          rw [← ha1]
          refine x_rdV (As := [.int a1]) (rest := [.int rx]) ⟨hx, hb, hml, hown, hts⟩ (tX3_count l D cI cZ cC q o g n hgn hnb a1) (cwV 1 hts gL_law_X3_count rfl rfl rfl (by decide +kernel) ⟨Nat.le_of_ble_eq_true rfl, Nat.le_of_ble_eq_true rfl⟩) hK (va_recv (D := D) (ci := 3) hK (right_P hP) rfl (q0 := 0) rfl) (right_P hP) rfl hl.1 rfl (Nat.le_of_ble_eq_true rfl) dL_law_670 ⟨show _ ≤ 600000 by omega, show _ ≤ 7302250 by omega⟩ (fun rm erm => ?_)
          have eq1 : rx = rm := by rw [erx, erm]; exact sim_count hR a1
          refine lv_icmp_eq (tgt := 692) hx hb dL_law_673 (by decide) (fun _ => ?_) (fun hne => absurd eq1 hne)
          refine lv_iinc (v := nI (i + 8)) (lv' := [(3, .int (nI (i + 8))), (0, .ref b), (1, .ref (ad 0)), (2, .ref o)]) hx hb dL_law_692 hl (k := 3) rfl (nI_add i 8) (by decide) rfl (fun ls hl => ?_)
          refine lv_goto (tgt := 18) hx hb dL_law_695 (by decide) ?_
          refine W.widen (k := 60 + 3 * (i + 8)) (n := 9000 + 38 * (i + 8)) (by omega) (by omega) ?_
          exact ih (i + 8) n mm ad t v C FF FO g (by omega) (by omega) rfl (Rel.mono hR (by omega)) H locs ls hP hD hS (lv_sub hl [1, 2, 3, 0] rfl)
        · refine lv_tableIn (off := 645) (tgt := 678) hx hb dL_law_33 (by rw [c_2]; decide) (by rw [c_2]; decide) (by rw [c_2]; rfl) (by decide) ?_
          refine lv_aload_n hx hb dL_law_678 rfl (lv_at hl 1 rfl) ?_
          refine x_rlVN (As := []) (rest := []) ⟨hx, hb, hml, hown, hts⟩ (tX2_digest l D cI cZ cC ad n t v C FF FO hn hnb mm hm hmb hcfo) (cwV 0 hts gL_law_X2_digest rfl rfl rfl (by decide +kernel) ⟨Nat.le_of_ble_eq_true rfl, Nat.le_of_ble_eq_true rfl⟩) hK hN (va_recv (D := D) (ci := 2) hK (left_P hP) rfl (q0 := 0) rfl) (left_P hP) rfl hl.1 rfl (Nat.le_of_ble_eq_true rfl) dL_law_679 ⟨show _ ≤ 600000 by omega, show _ ≤ 7302250 by omega⟩ (fun rx erx => ?_)
          refine lv_aload_n hx hb dL_law_682 rfl (lv_at hl 2 rfl) ?_
          refine x_rlV (As := []) (rest := [.long rx]) ⟨hx, hb, hml, hown, hts⟩ (tX3_digest l D cI cZ cC q o g n hgn hnb mm hgm hmb hgfo) (cwV 0 hts gL_law_X3_digest rfl rfl rfl (by decide +kernel) ⟨Nat.le_of_ble_eq_true rfl, Nat.le_of_ble_eq_true rfl⟩) hK (va_recv (D := D) (ci := 3) hK (right_P hP) rfl (q0 := 0) rfl) (right_P hP) rfl hl.1 rfl (Nat.le_of_ble_eq_true rfl) dL_law_683 ⟨show _ ≤ 600000 by omega, show _ ≤ 7302250 by omega⟩ (fun rm erm => ?_)
          refine W.eq (g2 := F0 m 686 ls [.long rm, .long rx]) rfl ?_
          have esim := sim_digest hR
          have eq1 : rx = rm := by rw [erx, erm]; exact esim
          refine lw_cmp hx hb dL_law_686 eq1 ?_
          refine lv_if_eq (tgt := 692) hx hb dL_law_687 (by decide) (fun _ => ?_) (fun hne => absurd rfl hne)
          refine lv_iinc (v := nI (i + 8)) (lv' := [(3, .int (nI (i + 8))), (0, .ref b), (1, .ref (ad 0)), (2, .ref o)]) hx hb dL_law_692 hl (k := 3) rfl (nI_add i 8) (by decide) rfl (fun ls hl => ?_)
          refine lv_goto (tgt := 18) hx hb dL_law_695 (by decide) ?_
          refine W.widen (k := 60 + 3 * (i + 8)) (n := 9000 + 38 * (i + 8)) (by omega) (by omega) ?_
          exact ih (i + 8) n mm ad t v C FF FO g (by omega) (by omega) rfl (Rel.mono hR (by omega)) H locs ls hP hD hS (lv_sub hl [1, 2, 3, 0] rfl)
