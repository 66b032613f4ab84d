def chA (n : Nat) (t : Nat → Nat → Int32) (x1 x2 x3 x4 x5 x6 : Int32) : Int32 := if 0 ≤ x1 ∧ x1 ≤ 2 then (if x1 = 2 then (if 0 ≤ x2 ∧ x2 ≤ ((t 1 0) - 1) then (if 1 ≤ x3 ∧ x3 ≤ 9 then (if 1 ≤ x4 ∧ x4 ≤ 9 then (if 1 ≤ x5 ∧ x5 ≤ 90 then (if 0 ≤ x6 ∧ x6 ≤ 9 then (if (t 6 0) = 0 then (if (t 1 0) < 16 then (((t 1 0) + 1) - 1) else (-4)) else (-3)) else (-2)) else (-2)) else (-2)) else (-2)) else (-2)) else (if 1 ≤ x3 ∧ x3 ≤ 9 then (if 1 ≤ x4 ∧ x4 ≤ 9 then (if 1 ≤ x5 ∧ x5 ≤ 90 then (if 0 ≤ x6 ∧ x6 ≤ 9 then (if (t 6 0) = 0 then (if (t 1 0) < 16 then (((t 1 0) + 1) - 1) else (-4)) else (-3)) else (-2)) else (-2)) else (-2)) else (-2))) else (-2)

/-- a method that answers a number and may make cells -/
def InI (l : Launch) (y : MethodName) (ws : List Cond) (rm : Room) (D : va_G) (cI cZ cC : ClassId) (av : List Value) (w : va_W) (post : Int32 → (Nat → Nat) → Prop) (after : (Nat → Nat) → va_W) (mc ms : Nat) : Prop := ∀ sz : Nat, Met l y ws rm (va_Pc av (xPre D cI cZ cC (xW D w sz))) (va_Qi (fun r (u : Nat → Nat) => post r u) (fun u t => va_P D vwCl (after u) t.heap ∧ va_K D vwCl (tyA cI cZ cC) t ∧ va_D (va_A w sz) (after u)) (va_A w sz)) mc ms (va_A w sz)
theorem InI.of {l : Launch} {y : MethodName} {ws ws' : List Cond} {rm : Room} {D : va_G} {cI cZ cC : ClassId} {av : List Value} {w : va_W} {post : Int32 → (Nat → Nat) → Prop} {after : (Nat → Nat) → va_W} {mc ms : Nat} {cc : ByteArray} {maxL : Nat} {ret : FieldType} (hy : plainName y.cls = true) (hw : ws = Cond.code y cc maxL (some ret) :: ws') (hlen : (lg_sl av).length ≤ maxL)
    (body : ∀ (p : Program) (e : Env) (s : State) (m : MethodId) (args : Array Value) (below : List Frame) (meth : Method) (c : Code) (Q : State → Prop) (A : Nat → Prop) (ls : Array Slot), p.tables.exec = Jvm.exec → c.code = cc → c.maxLocals = maxL → (∀ w ∈ ws, w.before args s = true) → s.vm.findClass y.cls = some m.cls → va_K D vwCl (tyA cI cZ cC) s → va_P D vwCl w s.heap → va_D A w → va_S A s.heap s.heap [] → (∀ q : Nat, s.heap.size ≤ q → A q) →
      (∀ (pc : Nat) (ls : Array Slot) (v : Int32) (H : Heap) (locs : List Loc) (u : Nat → Nat), post v u → va_P D vwCl (after u) H → va_D A (after u) → va_S A s.heap H locs → narrow ret (.int v) = .int v → decode cc pc = .ok (.ireturn, 1) → W p l e rm s m args below meth c H locs mc ms Q (F0 m pc ls [.int v])) →
      lv_has ls maxL (lv_args 0 av) → W p l e rm s m args below meth c s.heap [] 0 0 Q (F0 m 0 ls [])) : InI l y ws rm D cI cZ cC av w post after mc ms := by
  intro sz
  refine Met.ofW (cc := cc) (maxL := maxL) (ret := some ret) hy hw ?_
  intro p e s m args below meth c s₁ B hml hv
  obtain ⟨rfl, ⟨hsz, hP, hD0⟩, hK⟩ := hv
  subst hsz
  have hl := lv_entry av (n := maxL) hlen
  rw [lg_entry_eq]
  refine body p e s m _ below meth c _ (va_A w s.heap.size) _ B.exec B.bytes hml (atoms_spec B.pre) (findClass_of_methodNamed B.named) hK hP hD0.self va_S.rf (fun q h => Or.inr h) (fun pc ls v H locs u hv hP' hD' hS' hn hdg => ?_) hl
  exact W.zret B.exec B.bytes B.returns hn (fun t ht hW => ⟨⟨v, u, rfl, hv, by rw [ht]; exact hP', va_K.moved hW.alike hK, hD'⟩, hS'.F ht⟩) hS'.2.2 hdg

set_option maxHeartbeats 4000000 in
set_option maxRecDepth 100000 in
theorem tX2_check (l : Launch) (D : va_G) (cI cZ cC : ClassId) (ad : Nat → Nat) (n : Nat) (t v C FF FO : Nat → Nat → Int32) (hn : t 1 0 = nI n) (hnb : n ≤ 16) (x1 x2 x3 x4 x5 x6 x7 : Int32) (h7 : x7 = 0 ∨ x7 = 1) : InI l yX2_check wsX2_check (rmA 2 3 38) D cI cZ cC [.ref (ad 0), .int x1, .int x2, .int x3, .int x4, .int x5, .int x6, .int x7] (cW cI cC ad n t v C FF FO) (fun ans u => ans = chA n t x1 x2 x3 x4 x5 x6 ∧ u 0 = ad 0) (fun u => (if chA n t x1 x2 x3 x4 x5 x6 < 0 then cW cI cC u n t v C FF FO else cW cI cC u (n + 1) (va_up t 1 (fun _ => (t 1 0) + 1)) v (va_up C n (kZ x1 x2 x3 x4 x5 x6 x7)) (va_up FF n (fun _ => 0)) (va_up FO n (fun _ => 0)))) 3 38 := by
  refine InI.of (cc := cX2_check) (maxL := 8) (ret := .int) (by decide) rfl (Nat.le_of_ble_eq_true rfl) ?_
  intro p e s m args below meth c Q A ls hx hb hml hts hown hK hP hD hS hA hret hl
  have hl : lv_has ls 8 [(0, .ref (ad 0)), (1, .int x1), (2, .int x2), (3, .int x3), (4, .int x4), (5, .int x5), (6, .int x6), (7, .int x7)] := hl
  have hinX2 : ∀ w ∈ u_ws RX2 TX2 9, w ∈ wsX2_check := (fun w h => List.mem_cons_of_mem _ (List.mem_append_left _ (List.mem_append_right _ h)))
  have hinX0 : ∀ w ∈ u_ws RX0 TX0 18, w ∈ wsX2_check := (fun w h => List.mem_cons_of_mem _ (List.mem_append_right _ h))
  refine lv_iload_n hx hb dX2_check_0 rfl (lv_at hl 1 rfl) ?_
  refine lv_iconst (v := 0) hx hb dX2_check_1 (by decide) ?_
  refine lv_iconst (v := 2) hx hb dX2_check_2 (by decide) ?_
  refine x_rdS (As := [.int x1, .int 0, .int 2]) (rest := []) ⟨hx, hb, hml, hown, hts⟩ (tX2_isWithin l D cI cZ cC x1 0 2) (va_cwS 3 hts gX2_check_X2_isWithin rfl rfl rfl (by decide +kernel) ⟨Nat.le_of_ble_eq_true rfl, Nat.le_of_ble_eq_true rfl⟩) hK trivial rfl hl.1 rfl (Nat.le_of_ble_eq_true rfl) dX2_check_3 ⟨Nat.le_of_ble_eq_true rfl, Nat.le_of_ble_eq_true rfl⟩ (fun r_1 er_1 => ?_)
  have er_1 : r_1 = bI (0 ≤ x1 ∧ x1 ≤ 2) := er_1
  subst er_1
  refine lv_if_ne (tgt := 12) hx hb dX2_check_6 (by decide) (fun c_2 => ?_) (fun c_2 => ?_)
  · have c_2 := bI_ne c_2
    refine lv_iload_n hx hb dX2_check_12 rfl (lv_at hl 1 rfl) ?_
    refine lv_iconst (v := 2) hx hb dX2_check_13 (by decide) ?_
    refine lv_icmp_ne (tgt := 28) hx hb dX2_check_14 (by decide) (fun c_3 => ?_) (fun c_3 => ?_)
    · refine lv_iload_n hx hb dX2_check_28 rfl (lv_at hl 3 rfl) ?_
      refine lv_iconst (v := 1) hx hb dX2_check_29 (by decide) ?_
      refine lv_bipush (v := 9) hx hb dX2_check_30 (by decide) ?_
      refine x_rdS (As := [.int x3, .int 1, .int 9]) (rest := []) ⟨hx, hb, hml, hown, hts⟩ (tX2_isWithin l D cI cZ cC x3 1 9) (va_cwS 3 hts gX2_check_X2_isWithin rfl rfl rfl (by decide +kernel) ⟨Nat.le_of_ble_eq_true rfl, Nat.le_of_ble_eq_true rfl⟩) hK trivial rfl hl.1 rfl (Nat.le_of_ble_eq_true rfl) dX2_check_32 ⟨Nat.le_of_ble_eq_true rfl, Nat.le_of_ble_eq_true rfl⟩ (fun r_4 er_4 => ?_)
      have er_4 : r_4 = bI (1 ≤ x3 ∧ x3 ≤ 9) := er_4
      subst er_4
      refine lv_if_eq (tgt := 49) hx hb dX2_check_35 (by decide) (fun c_5 => ?_) (fun c_5 => ?_)
      · have c_5 := bI_eq c_5
        refine lv_bipush (v := (-2)) hx hb dX2_check_49 (by decide) ?_
        have es : chA n t x1 x2 x3 x4 x5 x6 = (-2) := by rw [chA]; rw [if_pos c_2, if_neg c_3, if_neg c_5]
        have en : chA n t x1 x2 x3 x4 x5 x6 < 0 := by rw [es]; decide
        refine W.widen (k := 3) (n := 38) (Nat.le_of_ble_eq_true rfl) (Nat.le_of_ble_eq_true rfl) ?_
        exact hret 51 _ _ _ _ ad ⟨es.symm, rfl⟩ (by rw [if_pos en]; exact hP) (by rw [if_pos en]; exact hD) hS rfl dX2_check_51
      · have c_5 := bI_ne c_5
        refine lv_iload hx hb dX2_check_38 (lv_at hl 4 rfl) ?_
        refine lv_iconst (v := 1) hx hb dX2_check_40 (by decide) ?_
        refine lv_bipush (v := 9) hx hb dX2_check_41 (by decide) ?_
        refine x_rdS (As := [.int x4, .int 1, .int 9]) (rest := []) ⟨hx, hb, hml, hown, hts⟩ (tX2_isWithin l D cI cZ cC x4 1 9) (va_cwS 3 hts gX2_check_X2_isWithin rfl rfl rfl (by decide +kernel) ⟨Nat.le_of_ble_eq_true rfl, Nat.le_of_ble_eq_true rfl⟩) hK trivial rfl hl.1 rfl (Nat.le_of_ble_eq_true rfl) dX2_check_43 ⟨Nat.le_of_ble_eq_true rfl, Nat.le_of_ble_eq_true rfl⟩ (fun r_6 er_6 => ?_)
        have er_6 : r_6 = bI (1 ≤ x4 ∧ x4 ≤ 9) := er_6
        subst er_6
        refine lv_if_ne (tgt := 52) hx hb dX2_check_46 (by decide) (fun c_7 => ?_) (fun c_7 => ?_)
        · have c_7 := bI_ne c_7
          refine lv_iload hx hb dX2_check_52 (lv_at hl 5 rfl) ?_
          refine lv_iconst (v := 1) hx hb dX2_check_54 (by decide) ?_
          refine lv_bipush (v := 90) hx hb dX2_check_55 (by decide) ?_
          refine x_rdS (As := [.int x5, .int 1, .int 90]) (rest := []) ⟨hx, hb, hml, hown, hts⟩ (tX2_isWithin l D cI cZ cC x5 1 90) (va_cwS 3 hts gX2_check_X2_isWithin rfl rfl rfl (by decide +kernel) ⟨Nat.le_of_ble_eq_true rfl, Nat.le_of_ble_eq_true rfl⟩) hK trivial rfl hl.1 rfl (Nat.le_of_ble_eq_true rfl) dX2_check_57 ⟨Nat.le_of_ble_eq_true rfl, Nat.le_of_ble_eq_true rfl⟩ (fun r_8 er_8 => ?_)
          have er_8 : r_8 = bI (1 ≤ x5 ∧ x5 ≤ 90) := er_8
          subst er_8
          refine lv_if_eq (tgt := 74) hx hb dX2_check_60 (by decide) (fun c_9 => ?_) (fun c_9 => ?_)
          · have c_9 := bI_eq c_9
            refine lv_bipush (v := (-2)) hx hb dX2_check_74 (by decide) ?_
            have es : chA n t x1 x2 x3 x4 x5 x6 = (-2) := by rw [chA]; rw [if_pos c_2, if_neg c_3, if_pos c_5, if_pos c_7, if_neg c_9]
            have en : chA n t x1 x2 x3 x4 x5 x6 < 0 := by rw [es]; decide
            refine W.widen (k := 3) (n := 38) (Nat.le_of_ble_eq_true rfl) (Nat.le_of_ble_eq_true rfl) ?_
            exact hret 76 _ _ _ _ ad ⟨es.symm, rfl⟩ (by rw [if_pos en]; exact hP) (by rw [if_pos en]; exact hD) hS rfl dX2_check_76
          · have c_9 := bI_ne c_9
            refine lv_iload hx hb dX2_check_63 (lv_at hl 6 rfl) ?_
            refine lv_iconst (v := 0) hx hb dX2_check_65 (by decide) ?_
            refine lv_bipush (v := 9) hx hb dX2_check_66 (by decide) ?_
            refine x_rdS (As := [.int x6, .int 0, .int 9]) (rest := []) ⟨hx, hb, hml, hown, hts⟩ (tX2_isWithin l D cI cZ cC x6 0 9) (va_cwS 3 hts gX2_check_X2_isWithin rfl rfl rfl (by decide +kernel) ⟨Nat.le_of_ble_eq_true rfl, Nat.le_of_ble_eq_true rfl⟩) hK trivial rfl hl.1 rfl (Nat.le_of_ble_eq_true rfl) dX2_check_68 ⟨Nat.le_of_ble_eq_true rfl, Nat.le_of_ble_eq_true rfl⟩ (fun r_10 er_10 => ?_)
            have er_10 : r_10 = bI (0 ≤ x6 ∧ x6 ≤ 9) := er_10
            subst er_10
            refine lv_if_ne (tgt := 77) hx hb dX2_check_71 (by decide) (fun c_11 => ?_) (fun c_11 => ?_)
            · have c_11 := bI_ne c_11
              refine lv_aload_n hx hb dX2_check_77 rfl (lv_at hl 0 rfl) ?_
              refine va_get (D := D) (ci := 2) (v := .int (t 6 0)) (C := RX2) (T := TX2) (N := 9) hx hb hts hinX2 hown hK hP 0 rfl rfl 6 (by decide) (hts (.fieldLink RX2 32 "TroubleCodes" "driving" "Z") (mem_at 1 rfl)) (fun _ h9 => h9) rfl dX2_check_78 ?_
              refine lv_if_eq (tgt := 87) hx hb dX2_check_81 (by decide) (fun c_12 => ?_) (fun c_12 => ?_)
              · refine lv_aload_n hx hb dX2_check_87 rfl (lv_at hl 0 rfl) ?_
                refine va_get (D := D) (ci := 2) (v := .int (t 1 0)) (C := RX2) (T := TX2) (N := 9) hx hb hts hinX2 hown hK hP 0 rfl rfl 1 (by decide) (hts (.fieldLink RX2 15 "TroubleCodes" "checkCount" "I") (mem_at 2 rfl)) (fun _ h9 => h9) rfl dX2_check_88 ?_
                refine lv_bipush (v := 16) hx hb dX2_check_91 (by decide) ?_
                refine lv_icmp_lt (tgt := 99) hx hb dX2_check_93 (by decide) (fun c_13 => ?_) (fun c_13 => ?_)
                · refine lv_aload_n hx hb dX2_check_99 rfl (lv_at hl 0 rfl) ?_
                  refine va_get (D := D) (ci := 2) (v := .ref (ad 1)) (C := RX2) (T := TX2) (N := 9) hx hb hts hinX2 hown hK hP 0 rfl rfl 0 (by decide) (hts (.fieldLink RX2 11 "TroubleCodes" "checks" "[LTroubleCodes$Check;") (mem_at 3 rfl)) (fun _ h9 => h9) rfl dX2_check_100 ?_
                  refine lv_aload_n hx hb dX2_check_103 rfl (lv_at hl 0 rfl) ?_
                  refine va_get (D := D) (ci := 2) (v := .int (t 1 0)) (C := RX2) (T := TX2) (N := 9) hx hb hts hinX2 hown hK hP 0 rfl rfl 1 (by decide) (hts (.fieldLink RX2 15 "TroubleCodes" "checkCount" "I") (mem_at 2 rfl)) (fun _ h9 => h9) rfl dX2_check_104 ?_
                  have hn16 : n < 16 := by have h := c_13; rw [hn] at h; exact (nI_ltI (b := 16) (by omega) (by decide)).mp h
                  rw [hn]
                  refine va_new (ci := 0) (fs := [.int 0, .int 0, .int 0, .int 0, .int 0, .int 0, .int 0, .int 0, .int 0, .int 0, .int 0, .int 0, .int 0, .int 0, .int 0, .null, .int 0, .null]) (C := RX0) (T := TX0) (N := 18) hx hb hts hinX0 tyX0 tyX0_ok hown (hts (.classLink RX2 9 RX0) (mem_at 4 rfl)) (hts (.instantiable RX0 18) (mem_at 5 rfl)) (hts (.initialized RX0) (mem_at 6 rfl)) hK hP hD hS hA rfl zX0 (Nat.le_of_ble_eq_true rfl) (Nat.le_of_ble_eq_true rfl) dX2_check_107 (fun qn H hP hD hS => ?_)
                  refine W.widen (k := 1) (n := 18) (Nat.le_of_ble_eq_true rfl) (Nat.le_of_ble_eq_true rfl) ?_
                  refine lv_dup hx hb dX2_check_110 rfl ?_
                  refine lv_iload_n hx hb dX2_check_111 rfl (lv_at hl 1 rfl) ?_
                  refine lv_iload_n hx hb dX2_check_112 rfl (lv_at hl 2 rfl) ?_
                  refine lv_iload_n hx hb dX2_check_113 rfl (lv_at hl 3 rfl) ?_
                  refine lv_iload hx hb dX2_check_114 (lv_at hl 4 rfl) ?_
                  refine lv_iload hx hb dX2_check_116 (lv_at hl 5 rfl) ?_
                  refine lv_iload hx hb dX2_check_118 (lv_at hl 6 rfl) ?_
                  refine lv_iload hx hb dX2_check_120 (lv_at hl 7 rfl) ?_
                  have hlen : (cW cI cC ad n t v C FF FO).length = (cW cI cC ad n t v C FF FO).length := rfl
                  have hlast : (cW cI cC ad n t v C FF FO ++ [(qn, .inr (0, [.int 0, .int 0, .int 0, .int 0, .int 0, .int 0, .int 0, .int 0, .int 0, .int 0, .int 0, .int 0, .int 0, .int 0, .int 0, .null, .int 0, .null]))])[(cW cI cC ad n t v C FF FO).length]? = some (qn, .inr (0, [.int 0, .int 0, .int 0, .int 0, .int 0, .int 0, .int 0, .int 0, .int 0, .int 0, .int 0, .int 0, .int 0, .int 0, .int 0, .null, .int 0, .null])) := by rw [List.getElem?_append_right (Nat.le_refl _), Nat.sub_self]; rfl
                  have hFc : ∀ q, va_A [(qn, .inr (0, [.int 0, .int 0, .int 0, .int 0, .int 0, .int 0, .int 0, .int 0, .int 0, .int 0, .int 0, .int 0, .int 0, .int 0, .int 0, .null, .int 0, .null]))] H.size q → A q := va_free (wc := [(qn, .inr (0, [.int 0, .int 0, .int 0, .int 0, .int 0, .int 0, .int 0, .int 0, .int 0, .int 0, .int 0, .int 0, .int 0, .int 0, .int 0, .null, .int 0, .null]))]) hD hS hA [(cW cI cC ad n t v C FF FO).length] (by rw [List.map_cons, List.map_nil, hlast]; rfl)
                  refine va_callv (va_runI (As := [.int x1, .int x2, .int x3, .int x4, .int x5, .int x6, .int x7]) (rest := [.ref qn, .int (nI n), .ref (ad 1)]) ⟨hx, hb, hml, hown, hts⟩ (tX0_init l D cI cZ cC qn x1 x2 x3 x4 x5 x6 x7 h7 H.size) (cwI 7 hts gX2_check_X0_init rfl rfl rfl (hts (.initialized RX0) (mem_at 6 rfl)) (hts (.methodLink RX2 54 yX0_init) (mem_at 15 rfl)) (hts (.instanceMethod yX0_init) (mem_at 16 rfl)) rfl (by decide +kernel) ⟨Nat.le_of_ble_eq_true rfl, Nat.le_of_ble_eq_true rfl⟩) ⟨fun a U g mk h => ⟨h.1, h.2.1, va_K.moved (u := U) (U := U.calling g mk a) (Vm.Alike.refl U.vm) h.2.2.1, trivial⟩, fun U hU hW => ⟨rfl, ⟨by rw [hU], by rw [hU]; exact sub_P hP [(cW cI cC ad n t v C FF FO).length] (by rw [List.map_cons, List.map_nil, hlast]; rfl), (hD.sub (ws' := [(qn, .inr (0, [.int 0, .int 0, .int 0, .int 0, .int 0, .int 0, .int 0, .int 0, .int 0, .int 0, .int 0, .int 0, .int 0, .int 0, .int 0, .null, .int 0, .null]))]) [(cW cI cC ad n t v C FF FO).length] (by simp [va_nd]) (by rw [List.map_cons, List.map_nil, hlast]; rfl)).weaken (fun _ _ _ _ => trivial)⟩, va_K.moved hW.alike hK, trivial⟩⟩ rfl rfl hl.1 rfl (lv_room (Nat.le_of_ble_eq_true rfl)) dX2_check_122 ⟨Nat.le_of_ble_eq_true rfl, Nat.le_of_ble_eq_true rfl⟩) hS (fun q _ h => hFc q h) hFc (fun u tt H1 locs ht hvm hw hB hz1 hk1 hS => ?_)
                  obtain ⟨hP1, hK1, hD1⟩ := hB
                  rw [ht] at hP1
                  obtain ⟨hP, hD⟩ := join_last (ws := cW cI cC ad n t v C FF FO) (w1 := [(qn, .inr (0, kF (u 0) (u 1) (kZ x1 x2 x3 x4 x5 x6 x7))), (u 0, .inl (cI, 4, .inl (fun _ => 0))), (u 1, .inl (cI, 16, .inl (fun _ => 0)))]) hP hD hk1 hFc hP1 hD1
                  generalize H1 = H at hP hS ⊢
                  refine W.widen (k := 3) (n := 38) (Nat.le_of_ble_eq_true rfl) (Nat.le_of_ble_eq_true rfl) ?_
                  have hq : (cW cI cC ad n t v C FF FO ++ [(qn, .inr (0, kF (u 0) (u 1) (kZ x1 x2 x3 x4 x5 x6 x7))), (u 0, .inl (cI, 4, .inl (fun _ => 0))), (u 1, .inl (cI, 16, .inl (fun _ => 0)))])[(cW cI cC ad n t v C FF FO).length]? = some (qn, .inr (0, kF (u 0) (u 1) (kZ x1 x2 x3 x4 x5 x6 x7))) := by rw [List.getElem?_append_right (Nat.le_refl _), Nat.sub_self]; rfl
                  refine va_astq (r := (RX0, TX0, 18)) hx hb hK hP hD hS 1 2 (cW cI cC ad n t v C FF FO).length 0 (ha := (rfl : (cW cI cC ad n t v C FF FO ++ [(qn, .inr (0, kF (u 0) (u 1) (kZ x1 x2 x3 x4 x5 x6 x7))), (u 0, .inl (cI, 4, .inl (fun _ => 0))), (u 1, .inl (cI, 16, .inl (fun _ => 0)))])[1]? = some (ad 1, .inl (cC, 16, .inr (.inr (.inr (.inr (ckR ad n)))))))) rfl hq rfl (vp_in_nI hn16 (by decide)) dX2_check_125 (fun H locs hP hD hS => ?_)
                  rw [nI_clamp (show n < 2 ^ 31 by omega)] at hP hD
                  have hP : va_P D vwCl ((((ad 0, .inr (2, tF ad t)) :: (ad 1, .inl (cC, 16, .inr (.inr (.inr (.inr (va_up (ckR ad n) n (some qn))))))) :: (ad 2, .inl (cI, 4, .inl (t 2))) :: wW cI ad v) ++ (plC ad n C ++ (plF cI ad 32 4 n FF ++ plF cI ad 48 16 n FO))) ++ [(qn, .inr (0, kF (u 0) (u 1) (kZ x1 x2 x3 x4 x5 x6 x7))), (u 0, .inl (cI, 4, .inl (fun _ => 0))), (u 1, .inl (cI, 16, .inl (fun _ => 0)))]) H := hP
                  have hD : va_D A ((((ad 0, .inr (2, tF ad t)) :: (ad 1, .inl (cC, 16, .inr (.inr (.inr (.inr (va_up (ckR ad n) n (some qn))))))) :: (ad 2, .inl (cI, 4, .inl (t 2))) :: wW cI ad v) ++ (plC ad n C ++ (plF cI ad 32 4 n FF ++ plF cI ad 48 16 n FO))) ++ [(qn, .inr (0, kF (u 0) (u 1) (kZ x1 x2 x3 x4 x5 x6 x7))), (u 0, .inl (cI, 4, .inl (fun _ => 0))), (u 1, .inl (cI, 16, .inl (fun _ => 0)))]) := hD
                  refine lv_aload_n hx hb dX2_check_126 rfl (lv_at hl 0 rfl) ?_
                  refine lv_dup hx hb dX2_check_127 rfl ?_
                  refine va_get (D := D) (ci := 2) (v := .int (t 1 0)) (C := RX2) (T := TX2) (N := 9) hx hb hts hinX2 hown hK hP 0 rfl rfl 1 (by decide) (hts (.fieldLink RX2 15 "TroubleCodes" "checkCount" "I") (mem_at 2 rfl)) (fun _ h9 => h9) rfl dX2_check_128 ?_
                  refine lv_iconst (v := 1) hx hb dX2_check_131 (by decide) ?_
                  refine lv_iadd hx hb dX2_check_132 ?_
                  refine va_put (D := D) (ci := 2) (v := .int ((t 1 0) + 1)) (ty := .int) (C := RX2) (T := TX2) (N := 9) hx hb hts hinX2 tyX2 tyX2_ok nmX2 hown hK hP hD hS 0 rfl rfl 1 (by decide) (hts (.fieldLink RX2 15 "TroubleCodes" "checkCount" "I") (mem_at 2 rfl)) (fun _ h9 => h9) rfl (by decide +kernel) rfl rfl (Nat.le_of_ble_eq_true rfl) dX2_check_133 (fun H locs hP hD hS => ?_)
                  have hP : va_P D vwCl ((((ad 0, .inr (2, tF ad (va_up t 1 (fun _ => (t 1 0) + 1)))) :: (ad 1, .inl (cC, 16, .inr (.inr (.inr (.inr (va_up (ckR ad n) n (some qn))))))) :: (ad 2, .inl (cI, 4, .inl (t 2))) :: wW cI ad v) ++ (plC ad n C ++ (plF cI ad 32 4 n FF ++ plF cI ad 48 16 n FO))) ++ [(qn, .inr (0, kF (u 0) (u 1) (kZ x1 x2 x3 x4 x5 x6 x7))), (u 0, .inl (cI, 4, .inl (fun _ => 0))), (u 1, .inl (cI, 16, .inl (fun _ => 0)))]) H := hP
                  have hD : va_D A ((((ad 0, .inr (2, tF ad (va_up t 1 (fun _ => (t 1 0) + 1)))) :: (ad 1, .inl (cC, 16, .inr (.inr (.inr (.inr (va_up (ckR ad n) n (some qn))))))) :: (ad 2, .inl (cI, 4, .inl (t 2))) :: wW cI ad v) ++ (plC ad n C ++ (plF cI ad 32 4 n FF ++ plF cI ad 48 16 n FO))) ++ [(qn, .inr (0, kF (u 0) (u 1) (kZ x1 x2 x3 x4 x5 x6 x7))), (u 0, .inl (cI, 4, .inl (fun _ => 0))), (u 1, .inl (cI, 16, .inl (fun _ => 0)))]) := hD
                  refine lv_aload_n hx hb dX2_check_136 rfl (lv_at hl 0 rfl) ?_
                  refine va_get (D := D) (ci := 2) (v := .int ((t 1 0) + 1)) (C := RX2) (T := TX2) (N := 9) hx hb hts hinX2 hown hK hP 0 rfl rfl 1 (by decide) (hts (.fieldLink RX2 15 "TroubleCodes" "checkCount" "I") (mem_at 2 rfl)) (fun _ h9 => h9) rfl dX2_check_137 ?_
                  refine lv_iconst (v := 1) hx hb dX2_check_140 (by decide) ?_
                  refine lv_isub hx hb dX2_check_141 ?_
                  have hpm := perm3 ((ad 0, .inr (2, tF ad (va_up t 1 (fun _ => (t 1 0) + 1)))) :: (ad 1, .inl (cC, 16, .inr (.inr (.inr (.inr (va_up (ckR ad n) n (some qn))))))) :: (ad 2, .inl (cI, 4, .inl (t 2))) :: wW cI ad v) (plC ad n C) (plF cI ad 32 4 n FF) (plF cI ad 48 16 n FO) (qn, .inr (0, kF (u 0) (u 1) (kZ x1 x2 x3 x4 x5 x6 x7))) (u 0, .inl (cI, 4, .inl (fun _ => 0))) (u 1, .inl (cI, 16, .inl (fun _ => 0)))
                  rw [← ckR_n (r1 := u 0) (r2 := u 1) hn16, ← plC_n hn16, ← plF_n (q := qn) (r1 := u 0) (r2 := u 1) (f := fun _ => 0) hn16 (Or.inl ⟨rfl, rfl⟩), ← plF_n (q := qn) (r1 := u 0) (r2 := u 1) (f := fun _ => 0) hn16 (Or.inr ⟨rfl, rfl⟩)] at hpm
                  have hP := va_P.perm (by rw [ckR_n (r1 := u 0) (r2 := u 1) hn16]; exact hP) hpm
                  have hD := va_D.perm (by rw [ckR_n (r1 := u 0) (r2 := u 1) hn16]; exact hD) hpm
                  have hlo : ∀ k, k < 10 → adN ad n qn (u 0) (u 1) k = ad k := fun k hk => adN_ne (by omega) (by omega) (by omega)
                  have ehd : ((ad 0, .inr (2, tF ad (va_up t 1 (fun _ => (t 1 0) + 1)))) :: (ad 1, .inl (cC, 16, .inr (.inr (.inr (.inr (ckR (adN ad n qn (u 0) (u 1)) (n + 1))))))) :: (ad 2, .inl (cI, 4, .inl (t 2))) :: wW cI ad v : va_W) = cHd cI cC (adN ad n qn (u 0) (u 1)) (n + 1) (va_up t 1 (fun _ => (t 1 0) + 1)) v := by simp only [cHd, wW, wF, tF, hlo 0 (by decide), hlo 1 (by decide), hlo 2 (by decide), hlo 3 (by decide), hlo 4 (by decide), hlo 5 (by decide), hlo 6 (by decide), hlo 7 (by decide), hlo 8 (by decide), hlo 9 (by decide)]; rfl
                  rw [ehd] at hP hD
                  have es : chA n t x1 x2 x3 x4 x5 x6 = ((t 1 0) + 1) - 1 := by rw [chA]; rw [if_pos c_2, if_neg c_3, if_pos c_5, if_pos c_7, if_pos c_9, if_pos c_11, if_pos c_12, if_pos c_13]
                  have en : ¬ chA n t x1 x2 x3 x4 x5 x6 < 0 := by rw [es, hn, nI_1, show (1 : Int32) = nI 1 from rfl, pk_sub (by omega)]; exact nI_pos (by omega)
                  exact hret 142 _ _ H locs (adN ad n qn (u 0) (u 1)) ⟨es.symm, hlo 0 (by decide)⟩ (by rw [if_neg en]; exact hP) (by rw [if_neg en]; exact hD) hS rfl dX2_check_142
                · refine lv_bipush (v := (-4)) hx hb dX2_check_96 (by decide) ?_
                  have es : chA n t x1 x2 x3 x4 x5 x6 = (-4) := by rw [chA]; rw [if_pos c_2, if_neg c_3, if_pos c_5, if_pos c_7, if_pos c_9, if_pos c_11, if_pos c_12, if_neg c_13]
                  have en : chA n t x1 x2 x3 x4 x5 x6 < 0 := by rw [es]; decide
                  refine W.widen (k := 3) (n := 38) (Nat.le_of_ble_eq_true rfl) (Nat.le_of_ble_eq_true rfl) ?_
                  exact hret 98 _ _ _ _ ad ⟨es.symm, rfl⟩ (by rw [if_pos en]; exact hP) (by rw [if_pos en]; exact hD) hS rfl dX2_check_98
              · refine lv_bipush (v := (-3)) hx hb dX2_check_84 (by decide) ?_
                have es : chA n t x1 x2 x3 x4 x5 x6 = (-3) := by rw [chA]; rw [if_pos c_2, if_neg c_3, if_pos c_5, if_pos c_7, if_pos c_9, if_pos c_11, if_neg c_12]
                have en : chA n t x1 x2 x3 x4 x5 x6 < 0 := by rw [es]; decide
                refine W.widen (k := 3) (n := 38) (Nat.le_of_ble_eq_true rfl) (Nat.le_of_ble_eq_true rfl) ?_
                exact hret 86 _ _ _ _ ad ⟨es.symm, rfl⟩ (by rw [if_pos en]; exact hP) (by rw [if_pos en]; exact hD) hS rfl dX2_check_86
            · have c_11 := bI_eq c_11
              refine lv_bipush (v := (-2)) hx hb dX2_check_74 (by decide) ?_
              have es : chA n t x1 x2 x3 x4 x5 x6 = (-2) := by rw [chA]; rw [if_pos c_2, if_neg c_3, if_pos c_5, if_pos c_7, if_pos c_9, if_neg c_11]
              have en : chA n t x1 x2 x3 x4 x5 x6 < 0 := by rw [es]; decide
              refine W.widen (k := 3) (n := 38) (Nat.le_of_ble_eq_true rfl) (Nat.le_of_ble_eq_true rfl) ?_
              exact hret 76 _ _ _ _ ad ⟨es.symm, rfl⟩ (by rw [if_pos en]; exact hP) (by rw [if_pos en]; exact hD) hS rfl dX2_check_76
        · have c_7 := bI_eq c_7
          refine lv_bipush (v := (-2)) hx hb dX2_check_49 (by decide) ?_
          have es : chA n t x1 x2 x3 x4 x5 x6 = (-2) := by rw [chA]; rw [if_pos c_2, if_neg c_3, if_pos c_5, if_neg c_7]
          have en : chA n t x1 x2 x3 x4 x5 x6 < 0 := by rw [es]; decide
          refine W.widen (k := 3) (n := 38) (Nat.le_of_ble_eq_true rfl) (Nat.le_of_ble_eq_true rfl) ?_
          exact hret 51 _ _ _ _ ad ⟨es.symm, rfl⟩ (by rw [if_pos en]; exact hP) (by rw [if_pos en]; exact hD) hS rfl dX2_check_51
    · refine lv_aload_n hx hb dX2_check_17 rfl (lv_at hl 0 rfl) ?_
      refine lv_iload_n hx hb dX2_check_18 rfl (lv_at hl 2 rfl) ?_
      refine x_rqV (As := [.int x2]) (rest := []) ⟨hx, hb, hml, hown, hts⟩ (tX2_checkAt l D cI cZ cC ad n t v C FF FO hn hnb x2) (cwV 1 hts gX2_check_X2_checkAt rfl rfl rfl (by decide +kernel) ⟨Nat.le_of_ble_eq_true rfl, Nat.le_of_ble_eq_true rfl⟩) hK (x_recv (ci := 2) hK hP rfl (q0 := 0) rfl) hP rfl hl.1 rfl (Nat.le_of_ble_eq_true rfl) dX2_check_19 ⟨Nat.le_of_ble_eq_true rfl, Nat.le_of_ble_eq_true rfl⟩ (fun r_14 er_14 => ?_)
      have er_14 : r_14 = ckA ad t x2 := er_14
      subst er_14
      by_cases c_15 : 0 ≤ x2 ∧ x2 ≤ ((t 1 0) - 1)
      · rw [ckA, if_pos c_15]
        refine W.eq (g2 := F0 m 22 ls [.ref (ad (16 + ix x2))]) rfl ?_
        refine lv_ifnonnull (tgt := 28) hx hb dX2_check_22 (by decide) ?_
        refine lv_iload_n hx hb dX2_check_28 rfl (lv_at hl 3 rfl) ?_
        refine lv_iconst (v := 1) hx hb dX2_check_29 (by decide) ?_
        refine lv_bipush (v := 9) hx hb dX2_check_30 (by decide) ?_
        refine x_rdS (As := [.int x3, .int 1, .int 9]) (rest := []) ⟨hx, hb, hml, hown, hts⟩ (tX2_isWithin l D cI cZ cC x3 1 9) (va_cwS 3 hts gX2_check_X2_isWithin rfl rfl rfl (by decide +kernel) ⟨Nat.le_of_ble_eq_true rfl, Nat.le_of_ble_eq_true rfl⟩) hK trivial rfl hl.1 rfl (Nat.le_of_ble_eq_true rfl) dX2_check_32 ⟨Nat.le_of_ble_eq_true rfl, Nat.le_of_ble_eq_true rfl⟩ (fun r_16 er_16 => ?_)
        have er_16 : r_16 = bI (1 ≤ x3 ∧ x3 ≤ 9) := er_16
        subst er_16
        refine lv_if_eq (tgt := 49) hx hb dX2_check_35 (by decide) (fun c_17 => ?_) (fun c_17 => ?_)
        · have c_17 := bI_eq c_17
          refine lv_bipush (v := (-2)) hx hb dX2_check_49 (by decide) ?_
          have es : chA n t x1 x2 x3 x4 x5 x6 = (-2) := by rw [chA]; rw [if_pos c_2, if_pos c_3, if_pos c_15, if_neg c_17]
          have en : chA n t x1 x2 x3 x4 x5 x6 < 0 := by rw [es]; decide
          refine W.widen (k := 3) (n := 38) (Nat.le_of_ble_eq_true rfl) (Nat.le_of_ble_eq_true rfl) ?_
          exact hret 51 _ _ _ _ ad ⟨es.symm, rfl⟩ (by rw [if_pos en]; exact hP) (by rw [if_pos en]; exact hD) hS rfl dX2_check_51
        · have c_17 := bI_ne c_17
          refine lv_iload hx hb dX2_check_38 (lv_at hl 4 rfl) ?_
          refine lv_iconst (v := 1) hx hb dX2_check_40 (by decide) ?_
          refine lv_bipush (v := 9) hx hb dX2_check_41 (by decide) ?_
          refine x_rdS (As := [.int x4, .int 1, .int 9]) (rest := []) ⟨hx, hb, hml, hown, hts⟩ (tX2_isWithin l D cI cZ cC x4 1 9) (va_cwS 3 hts gX2_check_X2_isWithin rfl rfl rfl (by decide +kernel) ⟨Nat.le_of_ble_eq_true rfl, Nat.le_of_ble_eq_true rfl⟩) hK trivial rfl hl.1 rfl (Nat.le_of_ble_eq_true rfl) dX2_check_43 ⟨Nat.le_of_ble_eq_true rfl, Nat.le_of_ble_eq_true rfl⟩ (fun r_18 er_18 => ?_)
          have er_18 : r_18 = bI (1 ≤ x4 ∧ x4 ≤ 9) := er_18
          subst er_18
          refine lv_if_ne (tgt := 52) hx hb dX2_check_46 (by decide) (fun c_19 => ?_) (fun c_19 => ?_)
          · have c_19 := bI_ne c_19
            refine lv_iload hx hb dX2_check_52 (lv_at hl 5 rfl) ?_
            refine lv_iconst (v := 1) hx hb dX2_check_54 (by decide) ?_
            refine lv_bipush (v := 90) hx hb dX2_check_55 (by decide) ?_
            refine x_rdS (As := [.int x5, .int 1, .int 90]) (rest := []) ⟨hx, hb, hml, hown, hts⟩ (tX2_isWithin l D cI cZ cC x5 1 90) (va_cwS 3 hts gX2_check_X2_isWithin rfl rfl rfl (by decide +kernel) ⟨Nat.le_of_ble_eq_true rfl, Nat.le_of_ble_eq_true rfl⟩) hK trivial rfl hl.1 rfl (Nat.le_of_ble_eq_true rfl) dX2_check_57 ⟨Nat.le_of_ble_eq_true rfl, Nat.le_of_ble_eq_true rfl⟩ (fun r_20 er_20 => ?_)
            have er_20 : r_20 = bI (1 ≤ x5 ∧ x5 ≤ 90) := er_20
            subst er_20
            refine lv_if_eq (tgt := 74) hx hb dX2_check_60 (by decide) (fun c_21 => ?_) (fun c_21 => ?_)
            · have c_21 := bI_eq c_21
              refine lv_bipush (v := (-2)) hx hb dX2_check_74 (by decide) ?_
              have es : chA n t x1 x2 x3 x4 x5 x6 = (-2) := by rw [chA]; rw [if_pos c_2, if_pos c_3, if_pos c_15, if_pos c_17, if_pos c_19, if_neg c_21]
              have en : chA n t x1 x2 x3 x4 x5 x6 < 0 := by rw [es]; decide
              refine W.widen (k := 3) (n := 38) (Nat.le_of_ble_eq_true rfl) (Nat.le_of_ble_eq_true rfl) ?_
              exact hret 76 _ _ _ _ ad ⟨es.symm, rfl⟩ (by rw [if_pos en]; exact hP) (by rw [if_pos en]; exact hD) hS rfl dX2_check_76
            · have c_21 := bI_ne c_21
              refine lv_iload hx hb dX2_check_63 (lv_at hl 6 rfl) ?_
              refine lv_iconst (v := 0) hx hb dX2_check_65 (by decide) ?_
              refine lv_bipush (v := 9) hx hb dX2_check_66 (by decide) ?_
              refine x_rdS (As := [.int x6, .int 0, .int 9]) (rest := []) ⟨hx, hb, hml, hown, hts⟩ (tX2_isWithin l D cI cZ cC x6 0 9) (va_cwS 3 hts gX2_check_X2_isWithin rfl rfl rfl (by decide +kernel) ⟨Nat.le_of_ble_eq_true rfl, Nat.le_of_ble_eq_true rfl⟩) hK trivial rfl hl.1 rfl (Nat.le_of_ble_eq_true rfl) dX2_check_68 ⟨Nat.le_of_ble_eq_true rfl, Nat.le_of_ble_eq_true rfl⟩ (fun r_22 er_22 => ?_)
              have er_22 : r_22 = bI (0 ≤ x6 ∧ x6 ≤ 9) := er_22
              subst er_22
              refine lv_if_ne (tgt := 77) hx hb dX2_check_71 (by decide) (fun c_23 => ?_) (fun c_23 => ?_)
              · have c_23 := bI_ne c_23
                refine lv_aload_n hx hb dX2_check_77 rfl (lv_at hl 0 rfl) ?_
                refine va_get (D := D) (ci := 2) (v := .int (t 6 0)) (C := RX2) (T := TX2) (N := 9) hx hb hts hinX2 hown hK hP 0 rfl rfl 6 (by decide) (hts (.fieldLink RX2 32 "TroubleCodes" "driving" "Z") (mem_at 1 rfl)) (fun _ h9 => h9) rfl dX2_check_78 ?_
                refine lv_if_eq (tgt := 87) hx hb dX2_check_81 (by decide) (fun c_24 => ?_) (fun c_24 => ?_)
                · refine lv_aload_n hx hb dX2_check_87 rfl (lv_at hl 0 rfl) ?_
                  refine va_get (D := D) (ci := 2) (v := .int (t 1 0)) (C := RX2) (T := TX2) (N := 9) hx hb hts hinX2 hown hK hP 0 rfl rfl 1 (by decide) (hts (.fieldLink RX2 15 "TroubleCodes" "checkCount" "I") (mem_at 2 rfl)) (fun _ h9 => h9) rfl dX2_check_88 ?_
                  refine lv_bipush (v := 16) hx hb dX2_check_91 (by decide) ?_
                  refine lv_icmp_lt (tgt := 99) hx hb dX2_check_93 (by decide) (fun c_25 => ?_) (fun c_25 => ?_)
                  · refine lv_aload_n hx hb dX2_check_99 rfl (lv_at hl 0 rfl) ?_
                    refine va_get (D := D) (ci := 2) (v := .ref (ad 1)) (C := RX2) (T := TX2) (N := 9) hx hb hts hinX2 hown hK hP 0 rfl rfl 0 (by decide) (hts (.fieldLink RX2 11 "TroubleCodes" "checks" "[LTroubleCodes$Check;") (mem_at 3 rfl)) (fun _ h9 => h9) rfl dX2_check_100 ?_
                    refine lv_aload_n hx hb dX2_check_103 rfl (lv_at hl 0 rfl) ?_
                    refine va_get (D := D) (ci := 2) (v := .int (t 1 0)) (C := RX2) (T := TX2) (N := 9) hx hb hts hinX2 hown hK hP 0 rfl rfl 1 (by decide) (hts (.fieldLink RX2 15 "TroubleCodes" "checkCount" "I") (mem_at 2 rfl)) (fun _ h9 => h9) rfl dX2_check_104 ?_
                    have hn16 : n < 16 := by have h := c_25; rw [hn] at h; exact (nI_ltI (b := 16) (by omega) (by decide)).mp h
                    rw [hn]
                    refine va_new (ci := 0) (fs := [.int 0, .int 0, .int 0, .int 0, .int 0, .int 0, .int 0, .int 0, .int 0, .int 0, .int 0, .int 0, .int 0, .int 0, .int 0, .null, .int 0, .null]) (C := RX0) (T := TX0) (N := 18) hx hb hts hinX0 tyX0 tyX0_ok hown (hts (.classLink RX2 9 RX0) (mem_at 4 rfl)) (hts (.instantiable RX0 18) (mem_at 5 rfl)) (hts (.initialized RX0) (mem_at 6 rfl)) hK hP hD hS hA rfl zX0 (Nat.le_of_ble_eq_true rfl) (Nat.le_of_ble_eq_true rfl) dX2_check_107 (fun qn H hP hD hS => ?_)
                    refine W.widen (k := 1) (n := 18) (Nat.le_of_ble_eq_true rfl) (Nat.le_of_ble_eq_true rfl) ?_
                    refine lv_dup hx hb dX2_check_110 rfl ?_
                    refine lv_iload_n hx hb dX2_check_111 rfl (lv_at hl 1 rfl) ?_
                    refine lv_iload_n hx hb dX2_check_112 rfl (lv_at hl 2 rfl) ?_
                    refine lv_iload_n hx hb dX2_check_113 rfl (lv_at hl 3 rfl) ?_
                    refine lv_iload hx hb dX2_check_114 (lv_at hl 4 rfl) ?_
                    refine lv_iload hx hb dX2_check_116 (lv_at hl 5 rfl) ?_
                    refine lv_iload hx hb dX2_check_118 (lv_at hl 6 rfl) ?_
                    refine lv_iload hx hb dX2_check_120 (lv_at hl 7 rfl) ?_
                    have hlen : (cW cI cC ad n t v C FF FO).length = (cW cI cC ad n t v C FF FO).length := rfl
                    have hlast : (cW cI cC ad n t v C FF FO ++ [(qn, .inr (0, [.int 0, .int 0, .int 0, .int 0, .int 0, .int 0, .int 0, .int 0, .int 0, .int 0, .int 0, .int 0, .int 0, .int 0, .int 0, .null, .int 0, .null]))])[(cW cI cC ad n t v C FF FO).length]? = some (qn, .inr (0, [.int 0, .int 0, .int 0, .int 0, .int 0, .int 0, .int 0, .int 0, .int 0, .int 0, .int 0, .int 0, .int 0, .int 0, .int 0, .null, .int 0, .null])) := by rw [List.getElem?_append_right (Nat.le_refl _), Nat.sub_self]; rfl
                    have hFc : ∀ q, va_A [(qn, .inr (0, [.int 0, .int 0, .int 0, .int 0, .int 0, .int 0, .int 0, .int 0, .int 0, .int 0, .int 0, .int 0, .int 0, .int 0, .int 0, .null, .int 0, .null]))] H.size q → A q := va_free (wc := [(qn, .inr (0, [.int 0, .int 0, .int 0, .int 0, .int 0, .int 0, .int 0, .int 0, .int 0, .int 0, .int 0, .int 0, .int 0, .int 0, .int 0, .null, .int 0, .null]))]) hD hS hA [(cW cI cC ad n t v C FF FO).length] (by rw [List.map_cons, List.map_nil, hlast]; rfl)
                    refine va_callv (va_runI (As := [.int x1, .int x2, .int x3, .int x4, .int x5, .int x6, .int x7]) (rest := [.ref qn, .int (nI n), .ref (ad 1)]) ⟨hx, hb, hml, hown, hts⟩ (tX0_init l D cI cZ cC qn x1 x2 x3 x4 x5 x6 x7 h7 H.size) (cwI 7 hts gX2_check_X0_init rfl rfl rfl (hts (.initialized RX0) (mem_at 6 rfl)) (hts (.methodLink RX2 54 yX0_init) (mem_at 15 rfl)) (hts (.instanceMethod yX0_init) (mem_at 16 rfl)) rfl (by decide +kernel) ⟨Nat.le_of_ble_eq_true rfl, Nat.le_of_ble_eq_true rfl⟩) ⟨fun a U g mk h => ⟨h.1, h.2.1, va_K.moved (u := U) (U := U.calling g mk a) (Vm.Alike.refl U.vm) h.2.2.1, trivial⟩, fun U hU hW => ⟨rfl, ⟨by rw [hU], by rw [hU]; exact sub_P hP [(cW cI cC ad n t v C FF FO).length] (by rw [List.map_cons, List.map_nil, hlast]; rfl), (hD.sub (ws' := [(qn, .inr (0, [.int 0, .int 0, .int 0, .int 0, .int 0, .int 0, .int 0, .int 0, .int 0, .int 0, .int 0, .int 0, .int 0, .int 0, .int 0, .null, .int 0, .null]))]) [(cW cI cC ad n t v C FF FO).length] (by simp [va_nd]) (by rw [List.map_cons, List.map_nil, hlast]; rfl)).weaken (fun _ _ _ _ => trivial)⟩, va_K.moved hW.alike hK, trivial⟩⟩ rfl rfl hl.1 rfl (lv_room (Nat.le_of_ble_eq_true rfl)) dX2_check_122 ⟨Nat.le_of_ble_eq_true rfl, Nat.le_of_ble_eq_true rfl⟩) hS (fun q _ h => hFc q h) hFc (fun u tt H1 locs ht hvm hw hB hz1 hk1 hS => ?_)
                    obtain ⟨hP1, hK1, hD1⟩ := hB
                    rw [ht] at hP1
                    obtain ⟨hP, hD⟩ := join_last (ws := cW cI cC ad n t v C FF FO) (w1 := [(qn, .inr (0, kF (u 0) (u 1) (kZ x1 x2 x3 x4 x5 x6 x7))), (u 0, .inl (cI, 4, .inl (fun _ => 0))), (u 1, .inl (cI, 16, .inl (fun _ => 0)))]) hP hD hk1 hFc hP1 hD1
                    generalize H1 = H at hP hS ⊢
                    refine W.widen (k := 3) (n := 38) (Nat.le_of_ble_eq_true rfl) (Nat.le_of_ble_eq_true rfl) ?_
                    have hq : (cW cI cC ad n t v C FF FO ++ [(qn, .inr (0, kF (u 0) (u 1) (kZ x1 x2 x3 x4 x5 x6 x7))), (u 0, .inl (cI, 4, .inl (fun _ => 0))), (u 1, .inl (cI, 16, .inl (fun _ => 0)))])[(cW cI cC ad n t v C FF FO).length]? = some (qn, .inr (0, kF (u 0) (u 1) (kZ x1 x2 x3 x4 x5 x6 x7))) := by rw [List.getElem?_append_right (Nat.le_refl _), Nat.sub_self]; rfl
                    refine va_astq (r := (RX0, TX0, 18)) hx hb hK hP hD hS 1 2 (cW cI cC ad n t v C FF FO).length 0 (ha := (rfl : (cW cI cC ad n t v C FF FO ++ [(qn, .inr (0, kF (u 0) (u 1) (kZ x1 x2 x3 x4 x5 x6 x7))), (u 0, .inl (cI, 4, .inl (fun _ => 0))), (u 1, .inl (cI, 16, .inl (fun _ => 0)))])[1]? = some (ad 1, .inl (cC, 16, .inr (.inr (.inr (.inr (ckR ad n)))))))) rfl hq rfl (vp_in_nI hn16 (by decide)) dX2_check_125 (fun H locs hP hD hS => ?_)
                    rw [nI_clamp (show n < 2 ^ 31 by omega)] at hP hD
                    have hP : va_P D vwCl ((((ad 0, .inr (2, tF ad t)) :: (ad 1, .inl (cC, 16, .inr (.inr (.inr (.inr (va_up (ckR ad n) n (some qn))))))) :: (ad 2, .inl (cI, 4, .inl (t 2))) :: wW cI ad v) ++ (plC ad n C ++ (plF cI ad 32 4 n FF ++ plF cI ad 48 16 n FO))) ++ [(qn, .inr (0, kF (u 0) (u 1) (kZ x1 x2 x3 x4 x5 x6 x7))), (u 0, .inl (cI, 4, .inl (fun _ => 0))), (u 1, .inl (cI, 16, .inl (fun _ => 0)))]) H := hP
                    have hD : va_D A ((((ad 0, .inr (2, tF ad t)) :: (ad 1, .inl (cC, 16, .inr (.inr (.inr (.inr (va_up (ckR ad n) n (some qn))))))) :: (ad 2, .inl (cI, 4, .inl (t 2))) :: wW cI ad v) ++ (plC ad n C ++ (plF cI ad 32 4 n FF ++ plF cI ad 48 16 n FO))) ++ [(qn, .inr (0, kF (u 0) (u 1) (kZ x1 x2 x3 x4 x5 x6 x7))), (u 0, .inl (cI, 4, .inl (fun _ => 0))), (u 1, .inl (cI, 16, .inl (fun _ => 0)))]) := hD
                    refine lv_aload_n hx hb dX2_check_126 rfl (lv_at hl 0 rfl) ?_
                    refine lv_dup hx hb dX2_check_127 rfl ?_
                    refine va_get (D := D) (ci := 2) (v := .int (t 1 0)) (C := RX2) (T := TX2) (N := 9) hx hb hts hinX2 hown hK hP 0 rfl rfl 1 (by decide) (hts (.fieldLink RX2 15 "TroubleCodes" "checkCount" "I") (mem_at 2 rfl)) (fun _ h9 => h9) rfl dX2_check_128 ?_
                    refine lv_iconst (v := 1) hx hb dX2_check_131 (by decide) ?_
                    refine lv_iadd hx hb dX2_check_132 ?_
                    refine va_put (D := D) (ci := 2) (v := .int ((t 1 0) + 1)) (ty := .int) (C := RX2) (T := TX2) (N := 9) hx hb hts hinX2 tyX2 tyX2_ok nmX2 hown hK hP hD hS 0 rfl rfl 1 (by decide) (hts (.fieldLink RX2 15 "TroubleCodes" "checkCount" "I") (mem_at 2 rfl)) (fun _ h9 => h9) rfl (by decide +kernel) rfl rfl (Nat.le_of_ble_eq_true rfl) dX2_check_133 (fun H locs hP hD hS => ?_)
                    have hP : va_P D vwCl ((((ad 0, .inr (2, tF ad (va_up t 1 (fun _ => (t 1 0) + 1)))) :: (ad 1, .inl (cC, 16, .inr (.inr (.inr (.inr (va_up (ckR ad n) n (some qn))))))) :: (ad 2, .inl (cI, 4, .inl (t 2))) :: wW cI ad v) ++ (plC ad n C ++ (plF cI ad 32 4 n FF ++ plF cI ad 48 16 n FO))) ++ [(qn, .inr (0, kF (u 0) (u 1) (kZ x1 x2 x3 x4 x5 x6 x7))), (u 0, .inl (cI, 4, .inl (fun _ => 0))), (u 1, .inl (cI, 16, .inl (fun _ => 0)))]) H := hP
                    have hD : va_D A ((((ad 0, .inr (2, tF ad (va_up t 1 (fun _ => (t 1 0) + 1)))) :: (ad 1, .inl (cC, 16, .inr (.inr (.inr (.inr (va_up (ckR ad n) n (some qn))))))) :: (ad 2, .inl (cI, 4, .inl (t 2))) :: wW cI ad v) ++ (plC ad n C ++ (plF cI ad 32 4 n FF ++ plF cI ad 48 16 n FO))) ++ [(qn, .inr (0, kF (u 0) (u 1) (kZ x1 x2 x3 x4 x5 x6 x7))), (u 0, .inl (cI, 4, .inl (fun _ => 0))), (u 1, .inl (cI, 16, .inl (fun _ => 0)))]) := hD
                    refine lv_aload_n hx hb dX2_check_136 rfl (lv_at hl 0 rfl) ?_
                    refine va_get (D := D) (ci := 2) (v := .int ((t 1 0) + 1)) (C := RX2) (T := TX2) (N := 9) hx hb hts hinX2 hown hK hP 0 rfl rfl 1 (by decide) (hts (.fieldLink RX2 15 "TroubleCodes" "checkCount" "I") (mem_at 2 rfl)) (fun _ h9 => h9) rfl dX2_check_137 ?_
                    refine lv_iconst (v := 1) hx hb dX2_check_140 (by decide) ?_
                    refine lv_isub hx hb dX2_check_141 ?_
                    have hpm := perm3 ((ad 0, .inr (2, tF ad (va_up t 1 (fun _ => (t 1 0) + 1)))) :: (ad 1, .inl (cC, 16, .inr (.inr (.inr (.inr (va_up (ckR ad n) n (some qn))))))) :: (ad 2, .inl (cI, 4, .inl (t 2))) :: wW cI ad v) (plC ad n C) (plF cI ad 32 4 n FF) (plF cI ad 48 16 n FO) (qn, .inr (0, kF (u 0) (u 1) (kZ x1 x2 x3 x4 x5 x6 x7))) (u 0, .inl (cI, 4, .inl (fun _ => 0))) (u 1, .inl (cI, 16, .inl (fun _ => 0)))
                    rw [← ckR_n (r1 := u 0) (r2 := u 1) hn16, ← plC_n hn16, ← plF_n (q := qn) (r1 := u 0) (r2 := u 1) (f := fun _ => 0) hn16 (Or.inl ⟨rfl, rfl⟩), ← plF_n (q := qn) (r1 := u 0) (r2 := u 1) (f := fun _ => 0) hn16 (Or.inr ⟨rfl, rfl⟩)] at hpm
                    have hP := va_P.perm (by rw [ckR_n (r1 := u 0) (r2 := u 1) hn16]; exact hP) hpm
                    have hD := va_D.perm (by rw [ckR_n (r1 := u 0) (r2 := u 1) hn16]; exact hD) hpm
                    have hlo : ∀ k, k < 10 → adN ad n qn (u 0) (u 1) k = ad k := fun k hk => adN_ne (by omega) (by omega) (by omega)
                    have ehd : ((ad 0, .inr (2, tF ad (va_up t 1 (fun _ => (t 1 0) + 1)))) :: (ad 1, .inl (cC, 16, .inr (.inr (.inr (.inr (ckR (adN ad n qn (u 0) (u 1)) (n + 1))))))) :: (ad 2, .inl (cI, 4, .inl (t 2))) :: wW cI ad v : va_W) = cHd cI cC (adN ad n qn (u 0) (u 1)) (n + 1) (va_up t 1 (fun _ => (t 1 0) + 1)) v := by simp only [cHd, wW, wF, tF, hlo 0 (by decide), hlo 1 (by decide), hlo 2 (by decide), hlo 3 (by decide), hlo 4 (by decide), hlo 5 (by decide), hlo 6 (by decide), hlo 7 (by decide), hlo 8 (by decide), hlo 9 (by decide)]; rfl
                    rw [ehd] at hP hD
                    have es : chA n t x1 x2 x3 x4 x5 x6 = ((t 1 0) + 1) - 1 := by rw [chA]; rw [if_pos c_2, if_pos c_3, if_pos c_15, if_pos c_17, if_pos c_19, if_pos c_21, if_pos c_23, if_pos c_24, if_pos c_25]
                    have en : ¬ chA n t x1 x2 x3 x4 x5 x6 < 0 := by rw [es, hn, nI_1, show (1 : Int32) = nI 1 from rfl, pk_sub (by omega)]; exact nI_pos (by omega)
                    exact hret 142 _ _ H locs (adN ad n qn (u 0) (u 1)) ⟨es.symm, hlo 0 (by decide)⟩ (by rw [if_neg en]; exact hP) (by rw [if_neg en]; exact hD) hS rfl dX2_check_142
                  · refine lv_bipush (v := (-4)) hx hb dX2_check_96 (by decide) ?_
                    have es : chA n t x1 x2 x3 x4 x5 x6 = (-4) := by rw [chA]; rw [if_pos c_2, if_pos c_3, if_pos c_15, if_pos c_17, if_pos c_19, if_pos c_21, if_pos c_23, if_pos c_24, if_neg c_25]
                    have en : chA n t x1 x2 x3 x4 x5 x6 < 0 := by rw [es]; decide
                    refine W.widen (k := 3) (n := 38) (Nat.le_of_ble_eq_true rfl) (Nat.le_of_ble_eq_true rfl) ?_
                    exact hret 98 _ _ _ _ ad ⟨es.symm, rfl⟩ (by rw [if_pos en]; exact hP) (by rw [if_pos en]; exact hD) hS rfl dX2_check_98
                · refine lv_bipush (v := (-3)) hx hb dX2_check_84 (by decide) ?_
                  have es : chA n t x1 x2 x3 x4 x5 x6 = (-3) := by rw [chA]; rw [if_pos c_2, if_pos c_3, if_pos c_15, if_pos c_17, if_pos c_19, if_pos c_21, if_pos c_23, if_neg c_24]
                  have en : chA n t x1 x2 x3 x4 x5 x6 < 0 := by rw [es]; decide
                  refine W.widen (k := 3) (n := 38) (Nat.le_of_ble_eq_true rfl) (Nat.le_of_ble_eq_true rfl) ?_
                  exact hret 86 _ _ _ _ ad ⟨es.symm, rfl⟩ (by rw [if_pos en]; exact hP) (by rw [if_pos en]; exact hD) hS rfl dX2_check_86
              · have c_23 := bI_eq c_23
                refine lv_bipush (v := (-2)) hx hb dX2_check_74 (by decide) ?_
                have es : chA n t x1 x2 x3 x4 x5 x6 = (-2) := by rw [chA]; rw [if_pos c_2, if_pos c_3, if_pos c_15, if_pos c_17, if_pos c_19, if_pos c_21, if_neg c_23]
                have en : chA n t x1 x2 x3 x4 x5 x6 < 0 := by rw [es]; decide
                refine W.widen (k := 3) (n := 38) (Nat.le_of_ble_eq_true rfl) (Nat.le_of_ble_eq_true rfl) ?_
                exact hret 76 _ _ _ _ ad ⟨es.symm, rfl⟩ (by rw [if_pos en]; exact hP) (by rw [if_pos en]; exact hD) hS rfl dX2_check_76
          · have c_19 := bI_eq c_19
            refine lv_bipush (v := (-2)) hx hb dX2_check_49 (by decide) ?_
            have es : chA n t x1 x2 x3 x4 x5 x6 = (-2) := by rw [chA]; rw [if_pos c_2, if_pos c_3, if_pos c_15, if_pos c_17, if_neg c_19]
            have en : chA n t x1 x2 x3 x4 x5 x6 < 0 := by rw [es]; decide
            refine W.widen (k := 3) (n := 38) (Nat.le_of_ble_eq_true rfl) (Nat.le_of_ble_eq_true rfl) ?_
            exact hret 51 _ _ _ _ ad ⟨es.symm, rfl⟩ (by rw [if_pos en]; exact hP) (by rw [if_pos en]; exact hD) hS rfl dX2_check_51
      · rw [ckA, if_neg c_15]
        refine W.eq (g2 := F0 m 22 ls [.null]) rfl ?_
        refine lv_ifnonnullN hx hb dX2_check_22 ?_
        refine lv_bipush (v := (-2)) hx hb dX2_check_25 (by decide) ?_
        have es : chA n t x1 x2 x3 x4 x5 x6 = (-2) := by rw [chA]; rw [if_pos c_2, if_pos c_3, if_neg c_15]
        have en : chA n t x1 x2 x3 x4 x5 x6 < 0 := by rw [es]; decide
        refine W.widen (k := 3) (n := 38) (Nat.le_of_ble_eq_true rfl) (Nat.le_of_ble_eq_true rfl) ?_
        exact hret 27 _ _ _ _ ad ⟨es.symm, rfl⟩ (by rw [if_pos en]; exact hP) (by rw [if_pos en]; exact hD) hS rfl dX2_check_27
  · have c_2 := bI_eq c_2
    refine lv_bipush (v := (-2)) hx hb dX2_check_9 (by decide) ?_
    have es : chA n t x1 x2 x3 x4 x5 x6 = (-2) := by rw [chA]; rw [if_neg c_2]
    have en : chA n t x1 x2 x3 x4 x5 x6 < 0 := by rw [es]; decide
    refine W.widen (k := 3) (n := 38) (Nat.le_of_ble_eq_true rfl) (Nat.le_of_ble_eq_true rfl) ?_
    exact hret 11 _ _ _ _ ad ⟨es.symm, rfl⟩ (by rw [if_pos en]; exact hP) (by rw [if_pos en]; exact hD) hS rfl dX2_check_11
