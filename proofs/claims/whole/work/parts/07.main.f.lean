/-! contracts over a state that holds the nest's link of asNumber -/
abbrev xPreN (D : va_G) (cI cZ cC : ClassId) (P : Heap → Prop) : State → Prop := fun U => P U.heap ∧ va_K D vwCl (tyA cI cZ cC) U ∧ va_Nw (.methodLinkNest RX0 72 yX2_asNumber RX2) U
theorem xPreN_blind {D : va_G} {cI cZ cC : ClassId} {P : Heap → Prop} {av : List Value} : FrameBlind (va_Pc av (xPreN D cI cZ cC P)) := fun a U g mk h => ⟨h.1, h.2.1, va_K.moved (u := U) (U := U.calling g mk a) (Vm.Alike.refl U.vm) h.2.2.1, va_Nw.same rfl rfl h.2.2.2⟩
def RdCN (l : Launch) (y : MethodName) (ws : List Cond) (rm : Room) (D : va_G) (cI cZ cC : ClassId) (av : List Value) (P : Heap → Prop) (post : Int32 → Prop) : Prop := Met l y ws rm (va_Pc av (xPreN D cI cZ cC P)) (vp_Si post) 0 0 (fun _ => False)
def RdLN (l : Launch) (y : MethodName) (ws : List Cond) (rm : Room) (D : va_G) (cI cZ cC : ClassId) (av : List Value) (P : Heap → Prop) (post : Int64 → Prop) : Prop := Met l y ws rm (va_Pc av (xPreN D cI cZ cC P)) (vp_Sl post) 0 0 (fun _ => False)
theorem RdCN.of {l : Launch} {y : MethodName} {ws ws' : List Cond} {rm : Room} {D : va_G} {cI cZ cC : ClassId} {av : List Value} {P : Heap → Prop} {post : Int32 → Prop} {cc : ByteArray} {maxL : Nat} {ret : FieldType} (hy : plainName y.cls = true) (hw : ws = Cond.code y cc maxL (some ret) :: ws') (hlen : (lg_sl av).length ≤ maxL)
    (body : ∀ (p : Program) (e : Env) (s : State) (m : MethodId) (args : Array Value) (below : List Frame) (meth : Method) (c : Code) (Q : State → Prop) (ls : Array Slot), p.tables.exec = Jvm.exec → c.code = cc → c.maxLocals = maxL → (∀ w ∈ ws, w.before args s = true) → s.vm.findClass y.cls = some m.cls → va_K D vwCl (tyA cI cZ cC) s → P s.heap → va_Nw (.methodLinkNest RX0 72 yX2_asNumber RX2) s →
      (∀ (pc : Nat) (ls : Array Slot) (v : Int32), post v → narrow ret (.int v) = .int v → decode cc pc = .ok (.ireturn, 1) → W p l e rm s m args below meth c s.heap [] 0 0 Q (F0 m pc ls [.int v])) →
      lv_has ls maxL (lv_args 0 av) → W p l e rm s m args below meth c s.heap [] 0 0 Q (F0 m 0 ls [])) : RdCN l y ws rm D cI cZ cC av P post := by
  refine Met.ofW (cc := cc) (maxL := maxL) (ret := some ret) hy hw ?_
  intro p e s m args below meth c s₁ B hml hv
  obtain ⟨rfl, hP, hK, hN⟩ := hv
  have hl := lv_entry av (n := maxL) hlen
  rw [lg_entry_eq]
  refine body p e s m _ below meth c _ _ B.exec B.bytes hml (atoms_spec B.pre) (findClass_of_methodNamed B.named) hK hP hN (fun pc ls v hv hn hdg => ?_) hl
  exact W.zret B.exec B.bytes B.returns hn (fun t ht hW => ⟨v, rfl, hv, ht⟩) (fun q h => by cases h) hdg
theorem RdLN.of {l : Launch} {y : MethodName} {ws ws' : List Cond} {rm : Room} {D : va_G} {cI cZ cC : ClassId} {av : List Value} {P : Heap → Prop} {post : Int64 → Prop} {cc : ByteArray} {maxL : Nat} (hy : plainName y.cls = true) (hw : ws = Cond.code y cc maxL (some .long) :: ws') (hlen : (lg_sl av).length ≤ maxL)
    (body : ∀ (p : Program) (e : Env) (s : State) (m : MethodId) (args : Array Value) (below : List Frame) (meth : Method) (c : Code) (Q : State → Prop) (ls : Array Slot), p.tables.exec = Jvm.exec → c.code = cc → c.maxLocals = maxL → (∀ w ∈ ws, w.before args s = true) → s.vm.findClass y.cls = some m.cls → va_K D vwCl (tyA cI cZ cC) s → P s.heap → va_Nw (.methodLinkNest RX0 72 yX2_asNumber RX2) s →
      (∀ (pc : Nat) (ls : Array Slot) (v : Int64), post v → decode cc pc = .ok (.lreturn, 1) → W p l e rm s m args below meth c s.heap [] 0 0 Q (F0 m pc ls [.long v])) →
      lv_has ls maxL (lv_args 0 av) → W p l e rm s m args below meth c s.heap [] 0 0 Q (F0 m 0 ls [])) : RdLN l y ws rm D cI cZ cC av P post := by
  refine Met.ofW (cc := cc) (maxL := maxL) (ret := some .long) hy hw ?_
  intro p e s m args below meth c s₁ B hml hv
  obtain ⟨rfl, hP, hK, hN⟩ := hv
  have hl := lv_entry av (n := maxL) hlen
  rw [lg_entry_eq]
  refine body p e s m _ below meth c _ _ B.exec B.bytes hml (atoms_spec B.pre) (findClass_of_methodNamed B.named) hK hP hN (fun pc ls v hv hdg => ?_) hl
  exact W.lret B.exec B.bytes B.returns (fun t ht hW => ⟨v, rfl, hv, ht⟩) (fun q h => by cases h) hdg
section XCN
variable {p : Program} {l : Launch} {e : Env} {R : Room} {s : State} {m : MethodId} {args : Array Value} {below : List Frame} {meth : Method} {c : Code} {H : Heap} {locs : List Loc} {cells slots : Nat} {Q : State → Prop}
variable {cc bytes : ByteArray} {nL maxL n index pc : Nat} {own C : String} {y : MethodName} {ret : Option FieldType} {ws : List Cond} {rm : Room} {Ts : List Cond} {b : Addr} {As rest st0 : List Value} {ls : Array Slot} {D : va_G} {cI cZ cC : ClassId} {P : Heap → Prop} {A0 : Nat → Prop} {H0 : Heap} {w w' : va_W}
theorem x_rdVN {post : Int32 → Prop} (S : CallFix p m c cc nL s args Ts own) (hM : RdCN l y ws rm D cI cZ cC (.ref b :: As) P post) (cw : CallW R s args own C index y bytes maxL ret ws rm 0 0 n) (hK : va_K D vwCl (tyA cI cZ cC) s) (hN : va_Nw (.methodLinkNest RX0 72 yX2_asNumber RX2) s) (hr : ∃ cell : Cell, H[b]? = some cell ∧ cell.vm.isStatics = false ∧ s.vm.findClass C = some cell.cls) (hP : P H) (hn : As.length = n) (hsz : ls.size = nL) (hst : st0 = As.reverse ++ .ref b :: rest) (hW : (rest.map fun v => v.category).sum ≤ 8) (hdg : decode cc pc = .ok (.invokevirtual index, 3)) (hf : cells + 0 ≤ R.cells ∧ slots + 0 ≤ R.slots)
    (kk : ∀ r : Int32, post r → W p l e R s m args below meth c H locs cells slots Q (F0 m (pc + 3) ls (.int r :: rest))) : W p l e R s m args below meth c H locs cells slots Q (F0 m pc ls st0) := by
  subst hst
  exact vp_callSi (va_Run.run (va_runV S hM cw ⟨xPreN_blind, hr, fun U hU hW => ⟨rfl, by rw [hU]; exact hP, va_K.moved hW.alike hK, hN.warmM hW⟩⟩ rfl hn hsz rfl (lv_room hW) hdg hf)) kk
theorem x_rlVN {post : Int64 → Prop} (S : CallFix p m c cc nL s args Ts own) (hM : RdLN l y ws rm D cI cZ cC (.ref b :: As) P post) (cw : CallW R s args own C index y bytes maxL ret ws rm 0 0 n) (hK : va_K D vwCl (tyA cI cZ cC) s) (hN : va_Nw (.methodLinkNest RX0 72 yX2_asNumber RX2) s) (hr : ∃ cell : Cell, H[b]? = some cell ∧ cell.vm.isStatics = false ∧ s.vm.findClass C = some cell.cls) (hP : P H) (hn : As.length = n) (hsz : ls.size = nL) (hst : st0 = As.reverse ++ .ref b :: rest) (hW : (rest.map fun v => v.category).sum ≤ 8) (hdg : decode cc pc = .ok (.invokevirtual index, 3)) (hf : cells + 0 ≤ R.cells ∧ slots + 0 ≤ R.slots)
    (kk : ∀ r : Int64, post r → W p l e R s m args below meth c H locs cells slots Q (F0 m (pc + 3) ls (.long r :: rest))) : W p l e R s m args below meth c H locs cells slots Q (F0 m pc ls st0) := by
  subst hst
  exact vp_callSl (va_Run.run (va_runV S hM cw ⟨xPreN_blind, hr, fun U hU hW => ⟨rfl, by rw [hU]; exact hP, va_K.moved hW.alike hK, hN.warmM hW⟩⟩ rfl hn hsz rfl (lv_room hW) hdg hf)) kk
theorem x_rdSN {host : String} {post : Int32 → Prop} (S : CallFix p m c cc nL s args Ts own) (hM : RdC l y ws rm D cI cZ cC As P post) (cw : va_CN R s args own index y host bytes maxL ret ws rm 0 0 n ∧ (Cond.static y).before args s = true ∧ True) (hK : va_K D vwCl (tyA cI cZ cC) s) (hP : P H) (hn : As.length = n) (hsz : ls.size = nL) (hst : st0 = As.reverse ++ rest) (hW : (rest.map fun v => v.category).sum ≤ 8) (hdg : decode cc pc = .ok (.invokestatic index, 3)) (hf : cells + 0 ≤ R.cells ∧ slots + 0 ≤ R.slots)
    (kk : ∀ r : Int32, post r → W p l e R s m args below meth c H locs cells slots Q (F0 m (pc + 3) ls (.int r :: rest))) : W p l e R s m args below meth c H locs cells slots Q (F0 m pc ls st0) := by
  subst hst
  exact vp_callSi (va_Run.run (va_runSN S hM cw ⟨xPre_blind, fun U hU hW => ⟨rfl, by rw [hU]; exact hP, va_K.moved hW.alike hK⟩⟩ rfl hn hsz rfl (lv_room hW) hdg hf)) kk
end XCN

def kNum (f : Nat → Int32) (x : Int32) : Int32 := if x = 0 then f 7 else if x = 1 then f 8 else if x = 2 then f 9 else if x = 3 then f 10 else if x = 5 then (if f 13 = (-1) then 0 else 1) else if x = 6 then (if f 12 = 0 then 0 else 1) else if x = 7 then f 0 else -2
theorem cb_eqa (C : Nat → Nat → Int32) (w : Int32) : ∀ k, k ≤ 16 → ∃ m, m < 2 ^ k ∧ cbF C w k = nI m
  | 0, _ => ⟨0, by decide, rfl⟩
  | k + 1, hk => by
    obtain ⟨m, hm, e⟩ := cb_eqa C w k (by omega)
    rw [cbF]
    split
    · exact ⟨m + 2 ^ k, by rw [Nat.pow_succ]; omega, by rw [e, shl1 (by omega), nI_or_pow hm]⟩
    · exact ⟨m, by rw [Nat.pow_succ]; omega, e⟩
theorem cb_eq (C : Nat → Nat → Int32) (w : Int32) {n : Nat} (hn : n ≤ 16) : ix (cbF C w n) < 65536 ∧ cbF C w n = nI (ix (cbF C w n)) := by
  obtain ⟨m, hm, e⟩ := cb_eqa C w n hn
  have := pow_le16 hn
  rw [e, ix_nI (by omega)]
  exact ⟨by omega, rfl⟩
theorem msk : ∀ m : Fin 17, (-((1 : Int32) <<< (nI m.val &&& 31))) = nI (2 ^ 32 - 2 ^ m.val) := by decide
theorem bits_lt {x y : Int32} {m : Nat} (hy : y = nI m) (hm : m ≤ 16) (h : x &&& (-(1 <<< (y &&& 31))) = 0) : ∃ z, z < 2 ^ m ∧ x = nI z := by
  rw [hy, msk ⟨m, by omega⟩] at h
  refine ⟨x.toBitVec.toNat, ?_, nI_tn x⟩
  have hb : x.toBitVec.toNat &&& (2 ^ 32 - 2 ^ m) = 0 := by
    have h2 := congrArg (fun v => v.toBitVec.toNat) h
    simp only [Int32.toBitVec_and, BitVec.toNat_and] at h2
    have e : (nI (2 ^ 32 - 2 ^ m)).toBitVec.toNat = 2 ^ 32 - 2 ^ m := pk_tn (by have := Nat.two_pow_pos m; omega)
    rw [e] at h2
    exact h2
  apply Nat.lt_pow_two_of_testBit
  intro i hi
  by_cases hi2 : i < 32
  · have h3 := congrArg (fun v => Nat.testBit v i) hb
    simp only [Nat.testBit_and, Nat.zero_testBit] at h3
    have e : 2 ^ 32 - 2 ^ m = (2 ^ (32 - m) - 1) * 2 ^ m := by
      rw [Nat.sub_mul, ← Nat.pow_add, show 32 - m + m = 32 by omega]; omega
    rw [e, Nat.testBit_mul_two_pow, Nat.testBit_two_pow_sub_one] at h3
    simp [hi, show i - m < 32 - m by omega] at h3
    exact h3
  · exact Nat.testBit_lt_two_pow (Nat.lt_of_lt_of_le x.toBitVec.isLt (Nat.pow_le_pow_right (by decide) (by omega)))

set_option maxHeartbeats 4000000 in
set_option maxRecDepth 100000 in
theorem tX0_numberOf (l : Launch) (D : va_G) (cI cZ cC : ClassId) (h r1 r2 : Nat) (f : Nat → Int32) (x : Int32) : RdCN l yX0_numberOf wsX0_numberOf (rmK 1) D cI cZ cC [.ref h, .int x] (fun H => va_P D vwCl ([(h, .inr (0, kF r1 r2 f))]) H) (fun ans => ans = kNum f x) := by
  refine RdCN.of (cc := cX0_numberOf) (maxL := 2) (ret := .int) (by decide) rfl (Nat.le_of_ble_eq_true rfl) ?_
  intro p e s m args below meth c Q ls hx hb hml hts hown hK hP hN hret hl
  have hl : lv_has ls 2 [(0, .ref h), (1, .int x)] := hl
  have hP : va_P D vwCl ([(h, .inr (0, kF r1 r2 f))]) s.heap := hP
  have hinX0 : ∀ w ∈ u_ws RX0 TX0 18, w ∈ wsX0_numberOf := (fun w h => List.mem_cons_of_mem _ (List.mem_append_right _ h))
  refine lv_iload_n hx hb dX0_numberOf_0 rfl (lv_at hl 1 rfl) ?_
  by_cases c_1 : x.toInt < 0 ∨ 7 < x.toInt
  · refine lv_tableOut (tgt := 89) hx hb dX0_numberOf_1 c_1 (by decide) ?_
    refine lv_bipush (v := (-2)) hx hb dX0_numberOf_89 (by decide) ?_
    exact hret 91 _ _ (by have h := tb_out7 c_1; obtain ⟨h0, h1, h2, h3, h4, h5, h6, h7⟩ := h; simp [kNum, h0, h1, h2, h3, h4, h5, h6, h7]) rfl dX0_numberOf_91
  · have c_1 := tb_in7 (x := x) c_1
    rcases c_1 with c_1 | c_1 | c_1 | c_1 | c_1 | c_1 | c_1 | c_1
    · refine lv_tableIn (off := 47) (tgt := 48) hx hb dX0_numberOf_1 (by rw [c_1]; decide) (by rw [c_1]; decide) (by rw [c_1]; rfl) (by decide) ?_
      refine lv_aload_n hx hb dX0_numberOf_48 rfl (lv_at hl 0 rfl) ?_
      refine va_get (D := D) (ci := 0) (v := .int (f 7)) (C := RX0) (T := TX0) (N := 18) hx hb hts hinX0 hown hK hP 0 rfl rfl 7 (by decide) (hts (.fieldLink RX0 11 "TroubleCodes$Check" "code" "I") (mem_at 1 rfl)) (fun _ h9 => h9) rfl dX0_numberOf_49 ?_
      exact hret 52 _ _ (by rw [c_1]; simp [kNum, bI]) rfl dX0_numberOf_52
    · refine lv_tableIn (off := 52) (tgt := 53) hx hb dX0_numberOf_1 (by rw [c_1]; decide) (by rw [c_1]; decide) (by rw [c_1]; rfl) (by decide) ?_
      refine lv_aload_n hx hb dX0_numberOf_53 rfl (lv_at hl 0 rfl) ?_
      refine va_get (D := D) (ci := 0) (v := .int (f 8)) (C := RX0) (T := TX0) (N := 18) hx hb hts hinX0 hown hK hP 0 rfl rfl 8 (by decide) (hts (.fieldLink RX0 15 "TroubleCodes$Check" "badCount" "I") (mem_at 2 rfl)) (fun _ h9 => h9) rfl dX0_numberOf_54 ?_
      exact hret 57 _ _ (by rw [c_1]; simp [kNum, bI]) rfl dX0_numberOf_57
    · refine lv_tableIn (off := 57) (tgt := 58) hx hb dX0_numberOf_1 (by rw [c_1]; decide) (by rw [c_1]; decide) (by rw [c_1]; rfl) (by decide) ?_
      refine lv_aload_n hx hb dX0_numberOf_58 rfl (lv_at hl 0 rfl) ?_
      refine va_get (D := D) (ci := 0) (v := .int (f 9)) (C := RX0) (T := TX0) (N := 18) hx hb hts hinX0 hown hK hP 0 rfl rfl 9 (by decide) (hts (.fieldLink RX0 18 "TroubleCodes$Check" "goodCount" "I") (mem_at 3 rfl)) (fun _ h9 => h9) rfl dX0_numberOf_59 ?_
      exact hret 62 _ _ (by rw [c_1]; simp [kNum, bI]) rfl dX0_numberOf_62
    · refine lv_tableIn (off := 62) (tgt := 63) hx hb dX0_numberOf_1 (by rw [c_1]; decide) (by rw [c_1]; decide) (by rw [c_1]; rfl) (by decide) ?_
      refine lv_aload_n hx hb dX0_numberOf_63 rfl (lv_at hl 0 rfl) ?_
      refine va_get (D := D) (ci := 0) (v := .int (f 10)) (C := RX0) (T := TX0) (N := 18) hx hb hts hinX0 hown hK hP 0 rfl rfl 10 (by decide) (hts (.fieldLink RX0 21 "TroubleCodes$Check" "age" "I") (mem_at 4 rfl)) (fun _ h9 => h9) rfl dX0_numberOf_64 ?_
      exact hret 67 _ _ (by rw [c_1]; simp [kNum, bI]) rfl dX0_numberOf_67
    · refine lv_tableIn (off := 88) (tgt := 89) hx hb dX0_numberOf_1 (by rw [c_1]; decide) (by rw [c_1]; decide) (by rw [c_1]; rfl) (by decide) ?_
      refine lv_bipush (v := (-2)) hx hb dX0_numberOf_89 (by decide) ?_
      exact hret 91 _ _ (by rw [c_1]; simp [kNum, bI]) rfl dX0_numberOf_91
    · refine lv_tableIn (off := 67) (tgt := 68) hx hb dX0_numberOf_1 (by rw [c_1]; decide) (by rw [c_1]; decide) (by rw [c_1]; rfl) (by decide) ?_
      refine lv_aload_n hx hb dX0_numberOf_68 rfl (lv_at hl 0 rfl) ?_
      refine x_rdV (As := []) (rest := []) ⟨hx, hb, hml, hown, hts⟩ (tX0_isFrozen l D cI cZ cC h r1 r2 f) (cwV 0 hts gX0_numberOf_X0_isFrozen rfl rfl rfl (by decide +kernel) ⟨Nat.le_of_ble_eq_true rfl, Nat.le_of_ble_eq_true rfl⟩) hK (x_recv (ci := 0) hK hP rfl (q0 := 0) rfl) hP rfl hl.1 rfl (Nat.le_of_ble_eq_true rfl) dX0_numberOf_69 ⟨Nat.le_of_ble_eq_true rfl, Nat.le_of_ble_eq_true rfl⟩ (fun r_2 er_2 => ?_)
      have er_2 : r_2 = bI (¬ f 13 = (-1)) := er_2
      subst er_2
      refine x_rdSN (As := [.int (bI (¬ f 13 = (-1)))]) (rest := []) ⟨hx, hb, hml, hown, hts⟩ (tX2_asNumber l D cI cZ cC (bI (¬ f 13 = (-1)))) ⟨va_cnB 1 hts gX0_numberOf_X2_asNumber_n72 rfl rfl rfl hN (hts (.initialized RX2) (mem_at 14 rfl)) (by decide +kernel) ⟨Nat.le_of_ble_eq_true rfl, Nat.le_of_ble_eq_true rfl⟩, hts (.static yX2_asNumber) (mem_at 13 rfl), trivial⟩ hK trivial rfl hl.1 rfl (Nat.le_of_ble_eq_true rfl) dX0_numberOf_72 ⟨Nat.le_of_ble_eq_true rfl, Nat.le_of_ble_eq_true rfl⟩ (fun r_3 er_3 => ?_)
      have er_3 : r_3 = (if (bI (¬ f 13 = (-1))) = 0 then 0 else 1) := er_3
      subst er_3
      exact hret 75 _ _ (by rw [c_1]; simp [kNum, bI]) rfl dX0_numberOf_75
    · refine lv_tableIn (off := 75) (tgt := 76) hx hb dX0_numberOf_1 (by rw [c_1]; decide) (by rw [c_1]; decide) (by rw [c_1]; rfl) (by decide) ?_
      refine lv_aload_n hx hb dX0_numberOf_76 rfl (lv_at hl 0 rfl) ?_
      refine va_get (D := D) (ci := 0) (v := .int (f 12)) (C := RX0) (T := TX0) (N := 18) hx hb hts hinX0 hown hK hP 0 rfl rfl 12 (by decide) (hts (.fieldLink RX0 27 "TroubleCodes$Check" "ranSinceCleared" "Z") (mem_at 5 rfl)) (fun _ h9 => h9) rfl dX0_numberOf_77 ?_
      refine x_rdSN (As := [.int (f 12)]) (rest := []) ⟨hx, hb, hml, hown, hts⟩ (tX2_asNumber l D cI cZ cC (f 12)) ⟨va_cnB 1 hts gX0_numberOf_X2_asNumber_n72 rfl rfl rfl hN (hts (.initialized RX2) (mem_at 14 rfl)) (by decide +kernel) ⟨Nat.le_of_ble_eq_true rfl, Nat.le_of_ble_eq_true rfl⟩, hts (.static yX2_asNumber) (mem_at 13 rfl), trivial⟩ hK trivial rfl hl.1 rfl (Nat.le_of_ble_eq_true rfl) dX0_numberOf_80 ⟨Nat.le_of_ble_eq_true rfl, Nat.le_of_ble_eq_true rfl⟩ (fun r_4 er_4 => ?_)
      have er_4 : r_4 = (if (f 12) = 0 then 0 else 1) := er_4
      subst er_4
      exact hret 83 _ _ (by rw [c_1]; simp [kNum, bI]) rfl dX0_numberOf_83
    · refine lv_tableIn (off := 83) (tgt := 84) hx hb dX0_numberOf_1 (by rw [c_1]; decide) (by rw [c_1]; decide) (by rw [c_1]; rfl) (by decide) ?_
      refine lv_aload_n hx hb dX0_numberOf_84 rfl (lv_at hl 0 rfl) ?_
      refine va_get (D := D) (ci := 0) (v := .int (f 0)) (C := RX0) (T := TX0) (N := 18) hx hb hts hinX0 hown hK hP 0 rfl rfl 0 (by decide) (hts (.fieldLink RX0 47 "TroubleCodes$Check" "sort" "I") (mem_at 6 rfl)) (fun _ h9 => h9) rfl dX0_numberOf_85 ?_
      exact hret 88 _ _ (by rw [c_1]; simp [kNum, bI]) rfl dX0_numberOf_88

set_option maxHeartbeats 4000000 in
set_option maxRecDepth 100000 in
theorem tX2_lamp (l : Launch) (D : va_G) (cI cZ cC : ClassId) (ad : Nat → Nat) (n : Nat) (t v C FF FO : Nat → Nat → Int32) (hn : t 1 0 = nI n) (hnb : n ≤ 16) : RdC l yX2_lamp wsX2_lamp (rmK 2) D cI cZ cC [.ref (ad 0)] (fun H => va_P D vwCl (cW cI cC ad n t v C FF FO) H) (fun ans => ans = bI (anyN (fun j => !(C j 6 == 0) && C j 7 == 2) n = true)) := by
  refine RdC.of (cc := cX2_lamp) (maxL := 3) (ret := .int) (by decide) rfl (Nat.le_of_ble_eq_true rfl) ?_
  intro p e s m args below meth c Q ls hx hb hml hts hown hK hP hret hl
  have hl : lv_has ls 3 [(0, .ref (ad 0))] := hl
  have hP : va_P D vwCl (cW cI cC ad n t v C FF FO) s.heap := hP
  have hinX2 : ∀ w ∈ u_ws RX2 TX2 9, w ∈ wsX2_lamp := (fun w h => List.mem_cons_of_mem _ (List.mem_append_left _ (List.mem_append_right _ h)))
  have hinX0 : ∀ w ∈ u_ws RX0 TX0 18, w ∈ wsX2_lamp := (fun w h => List.mem_cons_of_mem _ (List.mem_append_right _ h))
  refine lv_iconst (v := 0) hx hb dX2_lamp_0 (by decide) ?_
  refine lv_istore_n (lv' := [(1, .int 0), (0, .ref (ad 0))]) hx hb dX2_lamp_1 rfl hl (by decide) rfl (fun ls hl => ?_)
  have LOOP_1 : ∀ (fu k : Nat), k ≤ n → n - k < fu → ∀ (hno : anyN (fun j => !(C j 6 == 0) && C j 7 == 2) k = false), ∀ (ls : Array Slot), lv_has ls 3 [(0, .ref (ad 0)), (1, .int (nI k))] → W p l e (rmK 2) s m args below meth c s.heap [] 0 0 Q (F0 m 2 ls []) := by
    intro fu
    induction fu with
    | zero => intro k h1 h2; exact absurd h2 (Nat.not_lt_zero _)
    | succ fu ih =>
      intro k hkn hfu hno ls hl
      refine lv_iload_n hx hb dX2_lamp_2 rfl (lv_at hl 1 rfl) ?_
      refine lv_aload_n hx hb dX2_lamp_3 rfl (lv_at hl 0 rfl) ?_
      refine va_get (D := D) (ci := 2) (v := .int (t 1 0)) (C := RX2) (T := TX2) (N := 9) hx hb hts hinX2 hown hK hP 0 rfl rfl 1 (by decide) (hts (.fieldLink RX2 15 "TroubleCodes" "checkCount" "I") (mem_at 1 rfl)) (fun _ h9 => h9) rfl dX2_lamp_4 ?_
      refine lv_icmp_ge (tgt := 43) hx hb dX2_lamp_7 (by decide) (fun c_2 => ?_) (fun c_2 => ?_)
      · have ekn : n = k := Nat.le_antisymm (kx_ge hn (by omega) (by omega) c_2) hkn
        subst ekn
        refine lv_iconst (v := 0) hx hb dX2_lamp_43 (by decide) ?_
        exact hret 44 _ _ ((bI_f (by rw [hno]; decide)).symm) rfl dX2_lamp_44
      · have hkl : k < n := kx_lt hn (by omega) (by omega) c_2
        refine lv_aload_n hx hb dX2_lamp_10 rfl (lv_at hl 0 rfl) ?_
        refine lv_iload_n hx hb dX2_lamp_11 rfl (lv_at hl 1 rfl) ?_
        refine x_rqV (As := [.int (nI k)]) (rest := []) ⟨hx, hb, hml, hown, hts⟩ (tX2_checkAt l D cI cZ cC ad n t v C FF FO hn hnb (nI k)) (cwV 1 hts gX2_lamp_X2_checkAt rfl rfl rfl (by decide +kernel) ⟨Nat.le_of_ble_eq_true rfl, Nat.le_of_ble_eq_true rfl⟩) hK (x_recv (ci := 2) hK hP rfl (q0 := 0) rfl) hP rfl hl.1 rfl (Nat.le_of_ble_eq_true rfl) dX2_lamp_12 ⟨Nat.le_of_ble_eq_true rfl, Nat.le_of_ble_eq_true rfl⟩ (fun r_3 er_3 => ?_)
        have er_3 : r_3 = ckA ad t (nI k) := er_3
        subst er_3
        rw [ckA_k hn hnb hkl]
        refine W.eq (g2 := F0 m 15 ls [.ref (ad (16 + k))]) rfl ?_
        refine lv_astore_n (lv' := [(2, .ref (ad (16 + k))), (0, .ref (ad 0)), (1, .int (nI k))]) hx hb dX2_lamp_15 rfl hl (by decide) rfl (fun ls hl => ?_)
        refine lv_aload_n hx hb dX2_lamp_16 rfl (lv_at hl 0 rfl) ?_
        refine lv_ifnull hx hb dX2_lamp_17 ?_
        refine lv_aload_n hx hb dX2_lamp_20 rfl (lv_at hl 0 rfl) ?_
        refine va_get (D := D) (ci := 0) (v := .int (C k 6)) (C := RX0) (T := TX0) (N := 18) hx hb hts hinX0 hown hK hP (10 + k) (cW_k hkl) rfl 6 (by decide) (hts (.fieldLink RX2 100 "TroubleCodes$Check" "lamp" "Z") (mem_at 2 rfl)) (fun _ h9 => h9) rfl dX2_lamp_21 ?_
        refine lv_if_eq (tgt := 37) hx hb dX2_lamp_24 (by decide) (fun c_4 => ?_) (fun c_4 => ?_)
        · refine lv_iinc (v := nI (k + 1)) (lv' := [(1, .int (nI (k + 1))), (2, .ref (ad (16 + k))), (0, .ref (ad 0))]) hx hb dX2_lamp_37 hl (k := 2) rfl (nI_1 _) (by decide) rfl (fun ls hl => ?_)
          refine lv_goto (tgt := 2) hx hb dX2_lamp_40 (by decide) ?_
          exact ih (k + 1) (by omega) (by omega) (by rw [anyN, hno]; simp [c_2, Int32.not_le.mp c_2, c_4]) ls (by exact lv_sub hl [2, 0] rfl)
        · refine lv_aload_n hx hb dX2_lamp_27 rfl (lv_at hl 0 rfl) ?_
          refine va_get (D := D) (ci := 0) (v := .int (C k 7)) (C := RX0) (T := TX0) (N := 18) hx hb hts hinX0 hown hK hP (10 + k) (cW_k hkl) rfl 7 (by decide) (hts (.fieldLink RX2 103 "TroubleCodes$Check" "code" "I") (mem_at 3 rfl)) (fun _ h9 => h9) rfl dX2_lamp_28 ?_
          refine lv_iconst (v := 2) hx hb dX2_lamp_31 (by decide) ?_
          refine lv_icmp_ne (tgt := 37) hx hb dX2_lamp_32 (by decide) (fun c_5 => ?_) (fun c_5 => ?_)
          · refine lv_iinc (v := nI (k + 1)) (lv' := [(1, .int (nI (k + 1))), (2, .ref (ad (16 + k))), (0, .ref (ad 0))]) hx hb dX2_lamp_37 hl (k := 2) rfl (nI_1 _) (by decide) rfl (fun ls hl => ?_)
            refine lv_goto (tgt := 2) hx hb dX2_lamp_40 (by decide) ?_
            exact ih (k + 1) (by omega) (by omega) (by rw [anyN, hno]; simp [c_2, Int32.not_le.mp c_2, c_4, c_5]) ls (by exact lv_sub hl [2, 0] rfl)
          · refine lv_iconst (v := 1) hx hb dX2_lamp_35 (by decide) ?_
            exact hret 36 _ _ (by rw [bI_t]; exact anyN_of (k := k) (by simp [c_2, Int32.not_le.mp c_2, c_4, c_5]) n hkl) rfl dX2_lamp_36
  have q_6 : (nI 0 : Int32) = 0 := by rfl
  exact LOOP_1 (n - 0 + 1) 0 (Nat.zero_le _) (Nat.lt_succ_self _) (rfl) ls (by rw [q_6]; exact lv_sub hl [1, 0] rfl)

def fX2_about (t C : Nat → Nat → Int32) (x y : Int32) : Int32 := if 0 ≤ x ∧ x ≤ ((t 1 0) - 1) then (if 0 ≤ y ∧ y ≤ 7 then (if y = 4 then (if (heldC C (ix x)) = 0 then 0 else 1) else (kNum (C (ix x)) y)) else (-2)) else (-2)
set_option maxHeartbeats 4000000 in
set_option maxRecDepth 100000 in
theorem tX2_about (l : Launch) (D : va_G) (cI cZ cC : ClassId) (ad : Nat → Nat) (n : Nat) (t v C FF FO : Nat → Nat → Int32) (hn : t 1 0 = nI n) (hnb : n ≤ 16) (hfo : ∀ k, k < n → C k 0 = 2 → ∃ f, f < n ∧ C k 1 = nI f) (x y : Int32) : RdCN l yX2_about wsX2_about (rmK 3) D cI cZ cC [.ref (ad 0), .int x, .int y] (fun H => va_P D vwCl (cW cI cC ad n t v C FF FO) H) (fun ans => ans = fX2_about t C x y) := by
  refine RdCN.of (cc := cX2_about) (maxL := 4) (ret := .int) (by decide) rfl (Nat.le_of_ble_eq_true rfl) ?_
  intro p e s m args below meth c Q ls hx hb hml hts hown hK hP hN hret hl
  have hl : lv_has ls 4 [(0, .ref (ad 0)), (1, .int x), (2, .int y)] := hl
  have hP : va_P D vwCl (cW cI cC ad n t v C FF FO) s.heap := hP
  refine lv_aload_n hx hb dX2_about_0 rfl (lv_at hl 0 rfl) ?_
  refine lv_iload_n hx hb dX2_about_1 rfl (lv_at hl 1 rfl) ?_
  refine x_rqV (As := [.int x]) (rest := []) ⟨hx, hb, hml, hown, hts⟩ (tX2_checkAt l D cI cZ cC ad n t v C FF FO hn hnb x) (cwV 1 hts gX2_about_X2_checkAt rfl rfl rfl (by decide +kernel) ⟨Nat.le_of_ble_eq_true rfl, Nat.le_of_ble_eq_true rfl⟩) hK (x_recv (ci := 2) hK hP rfl (q0 := 0) rfl) hP rfl hl.1 rfl (Nat.le_of_ble_eq_true rfl) dX2_about_2 ⟨Nat.le_of_ble_eq_true rfl, Nat.le_of_ble_eq_true rfl⟩ (fun r_1 er_1 => ?_)
  have er_1 : r_1 = ckA ad t x := er_1
  subst er_1
  by_cases c_2 : 0 ≤ x ∧ x ≤ ((t 1 0) - 1)
  · obtain ⟨j, hj, ej⟩ := ixck hn (by omega) c_2
    subst ej
    have xj : ix (nI j) = j := ix_nI (by omega)
    rw [ckA_k hn hnb hj]
    refine W.eq (g2 := F0 m 5 ls [.ref (ad (16 + j))]) rfl ?_
    refine lv_astore_n (lv' := [(3, .ref (ad (16 + j))), (0, .ref (ad 0)), (1, .int (nI j)), (2, .int y)]) hx hb dX2_about_5 rfl hl (by decide) rfl (fun ls hl => ?_)
    refine lv_aload_n hx hb dX2_about_6 rfl (lv_at hl 0 rfl) ?_
    refine lv_ifnull hx hb dX2_about_7 ?_
    refine lv_iload_n hx hb dX2_about_10 rfl (lv_at hl 3 rfl) ?_
    refine lv_iconst (v := 0) hx hb dX2_about_11 (by decide) ?_
    refine lv_bipush (v := 7) hx hb dX2_about_12 (by decide) ?_
    refine x_rdS (As := [.int y, .int 0, .int 7]) (rest := []) ⟨hx, hb, hml, hown, hts⟩ (tX2_isWithin l D cI cZ cC y 0 7) (va_cwS 3 hts gX2_about_X2_isWithin rfl rfl rfl (by decide +kernel) ⟨Nat.le_of_ble_eq_true rfl, Nat.le_of_ble_eq_true rfl⟩) hK trivial rfl hl.1 rfl (Nat.le_of_ble_eq_true rfl) dX2_about_14 ⟨Nat.le_of_ble_eq_true rfl, Nat.le_of_ble_eq_true rfl⟩ (fun r_3 er_3 => ?_)
    have er_3 : r_3 = bI (0 ≤ y ∧ y ≤ 7) := er_3
    subst er_3
    refine lv_if_ne (tgt := 23) hx hb dX2_about_17 (by decide) (fun c_4 => ?_) (fun c_4 => ?_)
    · have c_4 := bI_ne c_4
      refine lv_iload_n hx hb dX2_about_23 rfl (lv_at hl 3 rfl) ?_
      refine lv_iconst (v := 4) hx hb dX2_about_24 (by decide) ?_
      refine lv_icmp_ne (tgt := 39) hx hb dX2_about_25 (by decide) (fun c_5 => ?_) (fun c_5 => ?_)
      · refine lv_aload_n hx hb dX2_about_39 rfl (lv_at hl 0 rfl) ?_
        refine lv_iload_n hx hb dX2_about_40 rfl (lv_at hl 3 rfl) ?_
        refine x_rdVN (As := [.int y]) (rest := []) ⟨hx, hb, hml, hown, hts⟩ (tX0_numberOf l D cI cZ cC (ad (16 + j)) (ad (32 + j)) (ad (48 + j)) (C j) y) (cwV 1 hts gX2_about_X0_numberOf rfl rfl rfl (by decide +kernel) ⟨Nat.le_of_ble_eq_true rfl, Nat.le_of_ble_eq_true rfl⟩) hK hN (x_recv (ci := 0) hK hP rfl (q0 := 10 + j) (cW_k hj)) (cP_k hP hj) rfl hl.1 rfl (Nat.le_of_ble_eq_true rfl) dX2_about_41 ⟨Nat.le_of_ble_eq_true rfl, Nat.le_of_ble_eq_true rfl⟩ (fun r_6 er_6 => ?_)
        have er_6 : r_6 = kNum (C j) y := er_6
        subst er_6
        exact hret 44 _ _ (by rw [fX2_about]; simp only [xj]; rw [if_pos c_2, if_pos c_4, if_neg c_5]) rfl dX2_about_44
      · refine lv_aload_n hx hb dX2_about_28 rfl (lv_at hl 1 rfl) ?_
        refine lv_aload_n hx hb dX2_about_29 rfl (lv_at hl 0 rfl) ?_
        refine x_rdV (As := [.ref (ad (16 + j))]) (rest := []) ⟨hx, hb, hml, hown, hts⟩ (tX2_isHeldBack l D cI cZ cC ad n t v C FF FO hn hnb j hj (hfo j hj)) (cwV 1 hts gX2_about_X2_isHeldBack rfl rfl rfl (by decide +kernel) ⟨Nat.le_of_ble_eq_true rfl, Nat.le_of_ble_eq_true rfl⟩) hK (x_recv (ci := 2) hK hP rfl (q0 := 0) rfl) hP rfl hl.1 rfl (Nat.le_of_ble_eq_true rfl) dX2_about_30 ⟨Nat.le_of_ble_eq_true rfl, Nat.le_of_ble_eq_true rfl⟩ (fun r_7 er_7 => ?_)
        have er_7 : r_7 = heldC C j := er_7
        subst er_7
        refine x_rdS (As := [.int (heldC C j)]) (rest := []) ⟨hx, hb, hml, hown, hts⟩ (tX2_asNumber l D cI cZ cC (heldC C j)) (va_cwS 1 hts gX2_about_X2_asNumber rfl rfl rfl (by decide +kernel) ⟨Nat.le_of_ble_eq_true rfl, Nat.le_of_ble_eq_true rfl⟩) hK trivial rfl hl.1 rfl (Nat.le_of_ble_eq_true rfl) dX2_about_33 ⟨Nat.le_of_ble_eq_true rfl, Nat.le_of_ble_eq_true rfl⟩ (fun r_8 er_8 => ?_)
        have er_8 : r_8 = (if (heldC C j) = 0 then 0 else 1) := er_8
        subst er_8
        refine lv_goto (tgt := 44) hx hb dX2_about_36 (by decide) ?_
        exact hret 44 _ _ (by rw [fX2_about]; simp only [xj]; rw [if_pos c_2, if_pos c_4, if_pos c_5]) rfl dX2_about_44
    · have c_4 := bI_eq c_4
      refine lv_bipush (v := (-2)) hx hb dX2_about_20 (by decide) ?_
      exact hret 22 _ _ (by rw [fX2_about]; simp only [xj]; rw [if_pos c_2, if_neg c_4]) rfl dX2_about_22
  · rw [ckA_n c_2]
    refine W.eq (g2 := F0 m 5 ls [.null]) rfl ?_
    refine lv_astore_nN (lv' := [(3, .null), (0, .ref (ad 0)), (1, .int x), (2, .int y)]) hx hb dX2_about_5 rfl hl (by decide) rfl (fun ls hl => ?_)
    refine lv_aload_nN hx hb dX2_about_6 rfl (lv_at hl 0 rfl) ?_
    refine lv_ifnullN (tgt := 20) hx hb dX2_about_7 (by decide) ?_
    refine lv_bipush (v := (-2)) hx hb dX2_about_20 (by decide) ?_
    exact hret 22 _ _ (by rw [fX2_about]; rw [if_neg c_2]) rfl dX2_about_22

def fX2_frozen (t C FF : Nat → Nat → Int32) (x y : Int32) : Int32 := if 0 ≤ x ∧ x ≤ ((t 1 0) - 1) then (if 0 ≤ y ∧ y ≤ 3 then (if C (ix x) 13 = (-1) then (-2000) else ((FF (ix x)) (ix y))) else (-2000)) else (-2000)
set_option maxHeartbeats 4000000 in
set_option maxRecDepth 100000 in
theorem tX2_frozen (l : Launch) (D : va_G) (cI cZ cC : ClassId) (ad : Nat → Nat) (n : Nat) (t v C FF FO : Nat → Nat → Int32) (hn : t 1 0 = nI n) (hnb : n ≤ 16) (x y : Int32) : RdC l yX2_frozen wsX2_frozen (rmK 2) D cI cZ cC [.ref (ad 0), .int x, .int y] (fun H => va_P D vwCl (cW cI cC ad n t v C FF FO) H) (fun ans => ans = fX2_frozen t C FF x y) := by
  refine RdC.of (cc := cX2_frozen) (maxL := 4) (ret := .int) (by decide) rfl (Nat.le_of_ble_eq_true rfl) ?_
  intro p e s m args below meth c Q ls hx hb hml hts hown hK hP hret hl
  have hl : lv_has ls 4 [(0, .ref (ad 0)), (1, .int x), (2, .int y)] := hl
  have hP : va_P D vwCl (cW cI cC ad n t v C FF FO) s.heap := hP
  have hinX0 : ∀ w ∈ u_ws RX0 TX0 18, w ∈ wsX2_frozen := (fun w h => List.mem_cons_of_mem _ (List.mem_append_left _ (List.mem_append_right _ h)))
  refine lv_aload_n hx hb dX2_frozen_0 rfl (lv_at hl 0 rfl) ?_
  refine lv_iload_n hx hb dX2_frozen_1 rfl (lv_at hl 1 rfl) ?_
  refine x_rqV (As := [.int x]) (rest := []) ⟨hx, hb, hml, hown, hts⟩ (tX2_checkAt l D cI cZ cC ad n t v C FF FO hn hnb x) (cwV 1 hts gX2_frozen_X2_checkAt rfl rfl rfl (by decide +kernel) ⟨Nat.le_of_ble_eq_true rfl, Nat.le_of_ble_eq_true rfl⟩) hK (x_recv (ci := 2) hK hP rfl (q0 := 0) rfl) hP rfl hl.1 rfl (Nat.le_of_ble_eq_true rfl) dX2_frozen_2 ⟨Nat.le_of_ble_eq_true rfl, Nat.le_of_ble_eq_true rfl⟩ (fun r_1 er_1 => ?_)
  have er_1 : r_1 = ckA ad t x := er_1
  subst er_1
  by_cases c_2 : 0 ≤ x ∧ x ≤ ((t 1 0) - 1)
  · obtain ⟨j, hj, ej⟩ := ixck hn (by omega) c_2
    subst ej
    have xj : ix (nI j) = j := ix_nI (by omega)
    rw [ckA_k hn hnb hj]
    refine W.eq (g2 := F0 m 5 ls [.ref (ad (16 + j))]) rfl ?_
    refine lv_astore_n (lv' := [(3, .ref (ad (16 + j))), (0, .ref (ad 0)), (1, .int (nI j)), (2, .int y)]) hx hb dX2_frozen_5 rfl hl (by decide) rfl (fun ls hl => ?_)
    refine lv_aload_n hx hb dX2_frozen_6 rfl (lv_at hl 0 rfl) ?_
    refine lv_ifnull hx hb dX2_frozen_7 ?_
    refine lv_iload_n hx hb dX2_frozen_10 rfl (lv_at hl 3 rfl) ?_
    refine lv_iconst (v := 0) hx hb dX2_frozen_11 (by decide) ?_
    refine lv_iconst (v := 3) hx hb dX2_frozen_12 (by decide) ?_
    refine x_rdS (As := [.int y, .int 0, .int 3]) (rest := []) ⟨hx, hb, hml, hown, hts⟩ (tX2_isWithin l D cI cZ cC y 0 3) (va_cwS 3 hts gX2_frozen_X2_isWithin rfl rfl rfl (by decide +kernel) ⟨Nat.le_of_ble_eq_true rfl, Nat.le_of_ble_eq_true rfl⟩) hK trivial rfl hl.1 rfl (Nat.le_of_ble_eq_true rfl) dX2_frozen_13 ⟨Nat.le_of_ble_eq_true rfl, Nat.le_of_ble_eq_true rfl⟩ (fun r_3 er_3 => ?_)
    have er_3 : r_3 = bI (0 ≤ y ∧ y ≤ 3) := er_3
    subst er_3
    refine lv_if_eq (tgt := 26) hx hb dX2_frozen_16 (by decide) (fun c_4 => ?_) (fun c_4 => ?_)
    · have c_4 := bI_eq c_4
      refine lv_sipush (v := (-2000)) hx hb dX2_frozen_26 (by decide) ?_
      exact hret 29 _ _ (by rw [fX2_frozen]; simp only [xj]; rw [if_pos c_2, if_neg c_4]) rfl dX2_frozen_29
    · have c_4 := bI_ne c_4
      refine lv_aload_n hx hb dX2_frozen_19 rfl (lv_at hl 0 rfl) ?_
      refine x_rdV (As := []) (rest := []) ⟨hx, hb, hml, hown, hts⟩ (tX0_isFrozen l D cI cZ cC (ad (16 + j)) (ad (32 + j)) (ad (48 + j)) (C j)) (cwV 0 hts gX2_frozen_X0_isFrozen rfl rfl rfl (by decide +kernel) ⟨Nat.le_of_ble_eq_true rfl, Nat.le_of_ble_eq_true rfl⟩) hK (x_recv (ci := 0) hK hP rfl (q0 := 10 + j) (cW_k hj)) (cP_k hP hj) rfl hl.1 rfl (Nat.le_of_ble_eq_true rfl) dX2_frozen_20 ⟨Nat.le_of_ble_eq_true rfl, Nat.le_of_ble_eq_true rfl⟩ (fun r_5 er_5 => ?_)
      have er_5 : r_5 = bI (¬ C j 13 = (-1)) := er_5
      subst er_5
      refine lv_if_ne (tgt := 30) hx hb dX2_frozen_23 (by decide) (fun c_6 => ?_) (fun c_6 => ?_)
      · have c_6 := bI_ne c_6
        obtain ⟨jb, hjb, ejb⟩ := ixin (m := 3) (z := 3) rfl (by decide) c_4
        subst ejb
        have xjb : ix (nI jb) = jb := ix_nI (by omega)
        refine lv_aload_n hx hb dX2_frozen_30 rfl (lv_at hl 0 rfl) ?_
        refine va_get (D := D) (ci := 0) (v := .ref (ad (32 + j))) (C := RX0) (T := TX0) (N := 18) hx hb hts hinX0 hown hK hP (10 + j) (cW_k hj) rfl 15 (by decide) (hts (.fieldLink RX2 94 "TroubleCodes$Check" "frozenFacts" "[I") (mem_at 1 rfl)) (fun _ h9 => h9) rfl dX2_frozen_31 ?_
        refine lv_iload_n hx hb dX2_frozen_34 rfl (lv_at hl 3 rfl) ?_
        refine x_iald (k := jb) (f := FF j) hx hb hK hP (10 + (n + j)) (cW_f hj) (by omega) (by decide) dX2_frozen_35 ?_
        exact hret 36 _ _ (by rw [fX2_frozen]; simp only [xj, xjb]; rw [if_pos c_2, if_pos c_4, if_neg c_6]) rfl dX2_frozen_36
      · have c_6 := bI_eq c_6
        have c_6 := Decidable.not_not.mp c_6
        refine lv_sipush (v := (-2000)) hx hb dX2_frozen_26 (by decide) ?_
        exact hret 29 _ _ (by rw [fX2_frozen]; simp only [xj]; rw [if_pos c_2, if_pos c_4, if_pos c_6]) rfl dX2_frozen_29
  · rw [ckA_n c_2]
    refine W.eq (g2 := F0 m 5 ls [.null]) rfl ?_
    refine lv_astore_nN (lv' := [(3, .null), (0, .ref (ad 0)), (1, .int x), (2, .int y)]) hx hb dX2_frozen_5 rfl hl (by decide) rfl (fun ls hl => ?_)
    refine lv_aload_nN hx hb dX2_frozen_6 rfl (lv_at hl 0 rfl) ?_
    refine lv_ifnullN (tgt := 26) hx hb dX2_frozen_7 (by decide) ?_
    refine lv_sipush (v := (-2000)) hx hb dX2_frozen_26 (by decide) ?_
    exact hret 29 _ _ (by rw [fX2_frozen]; rw [if_neg c_2]) rfl dX2_frozen_29

def fX2_frozenAt (t C : Nat → Nat → Int32) (x : Int32) : Int32 := if 0 ≤ x ∧ x ≤ ((t 1 0) - 1) then (C (ix x) 13) else (-2)
set_option maxHeartbeats 4000000 in
set_option maxRecDepth 100000 in
theorem tX2_frozenAt (l : Launch) (D : va_G) (cI cZ cC : ClassId) (ad : Nat → Nat) (n : Nat) (t v C FF FO : Nat → Nat → Int32) (hn : t 1 0 = nI n) (hnb : n ≤ 16) (x : Int32) : RdC l yX2_frozenAt wsX2_frozenAt (rmK 2) D cI cZ cC [.ref (ad 0), .int x] (fun H => va_P D vwCl (cW cI cC ad n t v C FF FO) H) (fun ans => ans = fX2_frozenAt t C x) := by
  refine RdC.of (cc := cX2_frozenAt) (maxL := 3) (ret := .int) (by decide) rfl (Nat.le_of_ble_eq_true rfl) ?_
  intro p e s m args below meth c Q ls hx hb hml hts hown hK hP hret hl
  have hl : lv_has ls 3 [(0, .ref (ad 0)), (1, .int x)] := hl
  have hP : va_P D vwCl (cW cI cC ad n t v C FF FO) s.heap := hP
  have hinX0 : ∀ w ∈ u_ws RX0 TX0 18, w ∈ wsX2_frozenAt := (fun w h => List.mem_cons_of_mem _ (List.mem_append_left _ (List.mem_append_right _ h)))
  refine lv_aload_n hx hb dX2_frozenAt_0 rfl (lv_at hl 0 rfl) ?_
  refine lv_iload_n hx hb dX2_frozenAt_1 rfl (lv_at hl 1 rfl) ?_
  refine x_rqV (As := [.int x]) (rest := []) ⟨hx, hb, hml, hown, hts⟩ (tX2_checkAt l D cI cZ cC ad n t v C FF FO hn hnb x) (cwV 1 hts gX2_frozenAt_X2_checkAt rfl rfl rfl (by decide +kernel) ⟨Nat.le_of_ble_eq_true rfl, Nat.le_of_ble_eq_true rfl⟩) hK (x_recv (ci := 2) hK hP rfl (q0 := 0) rfl) hP rfl hl.1 rfl (Nat.le_of_ble_eq_true rfl) dX2_frozenAt_2 ⟨Nat.le_of_ble_eq_true rfl, Nat.le_of_ble_eq_true rfl⟩ (fun r_1 er_1 => ?_)
  have er_1 : r_1 = ckA ad t x := er_1
  subst er_1
  by_cases c_2 : 0 ≤ x ∧ x ≤ ((t 1 0) - 1)
  · obtain ⟨j, hj, ej⟩ := ixck hn (by omega) c_2
    subst ej
    have xj : ix (nI j) = j := ix_nI (by omega)
    rw [ckA_k hn hnb hj]
    refine W.eq (g2 := F0 m 5 ls [.ref (ad (16 + j))]) rfl ?_
    refine lv_astore_n (lv' := [(2, .ref (ad (16 + j))), (0, .ref (ad 0)), (1, .int (nI j))]) hx hb dX2_frozenAt_5 rfl hl (by decide) rfl (fun ls hl => ?_)
    refine lv_aload_n hx hb dX2_frozenAt_6 rfl (lv_at hl 0 rfl) ?_
    refine lv_ifnonnull (tgt := 15) hx hb dX2_frozenAt_7 (by decide) ?_
    refine lv_aload_n hx hb dX2_frozenAt_15 rfl (lv_at hl 0 rfl) ?_
    refine va_get (D := D) (ci := 0) (v := .int (C j 13)) (C := RX0) (T := TX0) (N := 18) hx hb hts hinX0 hown hK hP (10 + j) (cW_k hj) rfl 13 (by decide) (hts (.fieldLink RX2 97 "TroubleCodes$Check" "frozenDrive" "I") (mem_at 1 rfl)) (fun _ h9 => h9) rfl dX2_frozenAt_16 ?_
    exact hret 19 _ _ (by rw [fX2_frozenAt]; simp only [xj]; rw [if_pos c_2]) rfl dX2_frozenAt_19
  · rw [ckA_n c_2]
    refine W.eq (g2 := F0 m 5 ls [.null]) rfl ?_
    refine lv_astore_nN (lv' := [(2, .null), (0, .ref (ad 0)), (1, .int x)]) hx hb dX2_frozenAt_5 rfl hl (by decide) rfl (fun ls hl => ?_)
    refine lv_aload_nN hx hb dX2_frozenAt_6 rfl (lv_at hl 0 rfl) ?_
    refine lv_ifnonnullN hx hb dX2_frozenAt_7 ?_
    refine lv_bipush (v := (-2)) hx hb dX2_frozenAt_10 (by decide) ?_
    refine lv_goto (tgt := 19) hx hb dX2_frozenAt_12 (by decide) ?_
    exact hret 19 _ _ (by rw [fX2_frozenAt]; rw [if_neg c_2]) rfl dX2_frozenAt_19

def fX2_sets (t C : Nat → Nat → Int32) (x : Int32) : Int32 := if 0 ≤ x ∧ x ≤ ((t 1 0) - 1) then (C (ix x) 16) else (-2)
set_option maxHeartbeats 4000000 in
set_option maxRecDepth 100000 in
theorem tX2_sets (l : Launch) (D : va_G) (cI cZ cC : ClassId) (ad : Nat → Nat) (n : Nat) (t v C FF FO : Nat → Nat → Int32) (hn : t 1 0 = nI n) (hnb : n ≤ 16) (x : Int32) : RdC l yX2_sets wsX2_sets (rmK 2) D cI cZ cC [.ref (ad 0), .int x] (fun H => va_P D vwCl (cW cI cC ad n t v C FF FO) H) (fun ans => ans = fX2_sets t C x) := by
  refine RdC.of (cc := cX2_sets) (maxL := 3) (ret := .int) (by decide) rfl (Nat.le_of_ble_eq_true rfl) ?_
  intro p e s m args below meth c Q ls hx hb hml hts hown hK hP hret hl
  have hl : lv_has ls 3 [(0, .ref (ad 0)), (1, .int x)] := hl
  have hP : va_P D vwCl (cW cI cC ad n t v C FF FO) s.heap := hP
  have hinX0 : ∀ w ∈ u_ws RX0 TX0 18, w ∈ wsX2_sets := (fun w h => List.mem_cons_of_mem _ (List.mem_append_left _ (List.mem_append_right _ h)))
  refine lv_aload_n hx hb dX2_sets_0 rfl (lv_at hl 0 rfl) ?_
  refine lv_iload_n hx hb dX2_sets_1 rfl (lv_at hl 1 rfl) ?_
  refine x_rqV (As := [.int x]) (rest := []) ⟨hx, hb, hml, hown, hts⟩ (tX2_checkAt l D cI cZ cC ad n t v C FF FO hn hnb x) (cwV 1 hts gX2_sets_X2_checkAt rfl rfl rfl (by decide +kernel) ⟨Nat.le_of_ble_eq_true rfl, Nat.le_of_ble_eq_true rfl⟩) hK (x_recv (ci := 2) hK hP rfl (q0 := 0) rfl) hP rfl hl.1 rfl (Nat.le_of_ble_eq_true rfl) dX2_sets_2 ⟨Nat.le_of_ble_eq_true rfl, Nat.le_of_ble_eq_true rfl⟩ (fun r_1 er_1 => ?_)
  have er_1 : r_1 = ckA ad t x := er_1
  subst er_1
  by_cases c_2 : 0 ≤ x ∧ x ≤ ((t 1 0) - 1)
  · obtain ⟨j, hj, ej⟩ := ixck hn (by omega) c_2
    subst ej
    have xj : ix (nI j) = j := ix_nI (by omega)
    rw [ckA_k hn hnb hj]
    refine W.eq (g2 := F0 m 5 ls [.ref (ad (16 + j))]) rfl ?_
    refine lv_astore_n (lv' := [(2, .ref (ad (16 + j))), (0, .ref (ad 0)), (1, .int (nI j))]) hx hb dX2_sets_5 rfl hl (by decide) rfl (fun ls hl => ?_)
    refine lv_aload_n hx hb dX2_sets_6 rfl (lv_at hl 0 rfl) ?_
    refine lv_ifnonnull (tgt := 15) hx hb dX2_sets_7 (by decide) ?_
    refine lv_aload_n hx hb dX2_sets_15 rfl (lv_at hl 0 rfl) ?_
    refine va_get (D := D) (ci := 0) (v := .int (C j 16)) (C := RX0) (T := TX0) (N := 18) hx hb hts hinX0 hown hK hP (10 + j) (cW_k hj) rfl 16 (by decide) (hts (.fieldLink RX2 147 "TroubleCodes$Check" "setDrives" "I") (mem_at 1 rfl)) (fun _ h9 => h9) rfl dX2_sets_16 ?_
    exact hret 19 _ _ (by rw [fX2_sets]; simp only [xj]; rw [if_pos c_2]) rfl dX2_sets_19
  · rw [ckA_n c_2]
    refine W.eq (g2 := F0 m 5 ls [.null]) rfl ?_
    refine lv_astore_nN (lv' := [(2, .null), (0, .ref (ad 0)), (1, .int x)]) hx hb dX2_sets_5 rfl hl (by decide) rfl (fun ls hl => ?_)
    refine lv_aload_nN hx hb dX2_sets_6 rfl (lv_at hl 0 rfl) ?_
    refine lv_ifnonnullN hx hb dX2_sets_7 ?_
    refine lv_bipush (v := (-2)) hx hb dX2_sets_10 (by decide) ?_
    refine lv_goto (tgt := 19) hx hb dX2_sets_12 (by decide) ?_
    exact hret 19 _ _ (by rw [fX2_sets]; rw [if_neg c_2]) rfl dX2_sets_19

def fX2_foretells (t FO : Nat → Nat → Int32) (y x : Int32) : Int32 := if 0 ≤ x ∧ x ≤ ((t 1 0) - 1) then (if 0 ≤ y ∧ y ≤ ((t 1 0) - 1) then ((FO (ix x)) (ix y)) else (-2)) else (-2)
set_option maxHeartbeats 4000000 in
set_option maxRecDepth 100000 in
theorem tX2_foretells (l : Launch) (D : va_G) (cI cZ cC : ClassId) (ad : Nat → Nat) (n : Nat) (t v C FF FO : Nat → Nat → Int32) (hn : t 1 0 = nI n) (hnb : n ≤ 16) (y x : Int32) : RdC l yX2_foretells wsX2_foretells (rmK 2) D cI cZ cC [.ref (ad 0), .int y, .int x] (fun H => va_P D vwCl (cW cI cC ad n t v C FF FO) H) (fun ans => ans = fX2_foretells t FO y x) := by
  refine RdC.of (cc := cX2_foretells) (maxL := 4) (ret := .int) (by decide) rfl (Nat.le_of_ble_eq_true rfl) ?_
  intro p e s m args below meth c Q ls hx hb hml hts hown hK hP hret hl
  have hl : lv_has ls 4 [(0, .ref (ad 0)), (1, .int y), (2, .int x)] := hl
  have hP : va_P D vwCl (cW cI cC ad n t v C FF FO) s.heap := hP
  have hinX0 : ∀ w ∈ u_ws RX0 TX0 18, w ∈ wsX2_foretells := (fun w h => List.mem_cons_of_mem _ (List.mem_append_left _ (List.mem_append_right _ h)))
  refine lv_aload_n hx hb dX2_foretells_0 rfl (lv_at hl 0 rfl) ?_
  refine lv_iload_n hx hb dX2_foretells_1 rfl (lv_at hl 2 rfl) ?_
  refine x_rqV (As := [.int x]) (rest := []) ⟨hx, hb, hml, hown, hts⟩ (tX2_checkAt l D cI cZ cC ad n t v C FF FO hn hnb x) (cwV 1 hts gX2_foretells_X2_checkAt rfl rfl rfl (by decide +kernel) ⟨Nat.le_of_ble_eq_true rfl, Nat.le_of_ble_eq_true rfl⟩) hK (x_recv (ci := 2) hK hP rfl (q0 := 0) rfl) hP rfl hl.1 rfl (Nat.le_of_ble_eq_true rfl) dX2_foretells_2 ⟨Nat.le_of_ble_eq_true rfl, Nat.le_of_ble_eq_true rfl⟩ (fun r_1 er_1 => ?_)
  have er_1 : r_1 = ckA ad t x := er_1
  subst er_1
  by_cases c_2 : 0 ≤ x ∧ x ≤ ((t 1 0) - 1)
  · obtain ⟨j, hj, ej⟩ := ixck hn (by omega) c_2
    subst ej
    have xj : ix (nI j) = j := ix_nI (by omega)
    rw [ckA_k hn hnb hj]
    refine W.eq (g2 := F0 m 5 ls [.ref (ad (16 + j))]) rfl ?_
    refine lv_astore_n (lv' := [(3, .ref (ad (16 + j))), (0, .ref (ad 0)), (1, .int y), (2, .int (nI j))]) hx hb dX2_foretells_5 rfl hl (by decide) rfl (fun ls hl => ?_)
    refine lv_aload_n hx hb dX2_foretells_6 rfl (lv_at hl 0 rfl) ?_
    refine lv_ifnull hx hb dX2_foretells_7 ?_
    refine lv_aload_n hx hb dX2_foretells_10 rfl (lv_at hl 1 rfl) ?_
    refine lv_iload_n hx hb dX2_foretells_11 rfl (lv_at hl 2 rfl) ?_
    refine x_rqV (As := [.int y]) (rest := []) ⟨hx, hb, hml, hown, hts⟩ (tX2_checkAt l D cI cZ cC ad n t v C FF FO hn hnb y) (cwV 1 hts gX2_foretells_X2_checkAt rfl rfl rfl (by decide +kernel) ⟨Nat.le_of_ble_eq_true rfl, Nat.le_of_ble_eq_true rfl⟩) hK (x_recv (ci := 2) hK hP rfl (q0 := 0) rfl) hP rfl hl.1 rfl (Nat.le_of_ble_eq_true rfl) dX2_foretells_12 ⟨Nat.le_of_ble_eq_true rfl, Nat.le_of_ble_eq_true rfl⟩ (fun r_3 er_3 => ?_)
    have er_3 : r_3 = ckA ad t y := er_3
    subst er_3
    by_cases c_4 : 0 ≤ y ∧ y ≤ ((t 1 0) - 1)
    · obtain ⟨jb, hjb, ejb⟩ := ixck hn (by omega) c_4
      subst ejb
      have xjb : ix (nI jb) = jb := ix_nI (by omega)
      rw [ckA_k hn hnb hjb]
      refine W.eq (g2 := F0 m 15 ls [.ref (ad (16 + jb))]) rfl ?_
      refine lv_ifnonnull (tgt := 23) hx hb dX2_foretells_15 (by decide) ?_
      refine lv_aload_n hx hb dX2_foretells_23 rfl (lv_at hl 0 rfl) ?_
      refine va_get (D := D) (ci := 0) (v := .ref (ad (48 + j))) (C := RX0) (T := TX0) (N := 18) hx hb hts hinX0 hown hK hP (10 + j) (cW_k hj) rfl 17 (by decide) (hts (.fieldLink RX2 144 "TroubleCodes$Check" "foretoldBy" "[I") (mem_at 1 rfl)) (fun _ h9 => h9) rfl dX2_foretells_24 ?_
      refine lv_iload_n hx hb dX2_foretells_27 rfl (lv_at hl 2 rfl) ?_
      refine x_iald (k := jb) (f := FO j) hx hb hK hP (10 + (n + (n + j))) (cW_o hj) (by omega) (by decide) dX2_foretells_28 ?_
      exact hret 29 _ _ (by rw [fX2_foretells]; simp only [xj, xjb]; rw [if_pos c_2, if_pos c_4]) rfl dX2_foretells_29
    · rw [ckA_n c_4]
      refine W.eq (g2 := F0 m 15 ls [.null]) rfl ?_
      refine lv_ifnonnullN hx hb dX2_foretells_15 ?_
      refine lv_bipush (v := (-2)) hx hb dX2_foretells_18 (by decide) ?_
      refine lv_goto (tgt := 29) hx hb dX2_foretells_20 (by decide) ?_
      exact hret 29 _ _ (by rw [fX2_foretells]; simp only [xj]; rw [if_pos c_2, if_neg c_4]) rfl dX2_foretells_29
  · rw [ckA_n c_2]
    refine W.eq (g2 := F0 m 5 ls [.null]) rfl ?_
    refine lv_astore_nN (lv' := [(3, .null), (0, .ref (ad 0)), (1, .int y), (2, .int x)]) hx hb dX2_foretells_5 rfl hl (by decide) rfl (fun ls hl => ?_)
    refine lv_aload_nN hx hb dX2_foretells_6 rfl (lv_at hl 0 rfl) ?_
    refine lv_ifnullN (tgt := 18) hx hb dX2_foretells_7 (by decide) ?_
    refine lv_bipush (v := (-2)) hx hb dX2_foretells_18 (by decide) ?_
    refine lv_goto (tgt := 29) hx hb dX2_foretells_20 (by decide) ?_
    exact hret 29 _ _ (by rw [fX2_foretells]; rw [if_neg c_2]) rfl dX2_foretells_29
